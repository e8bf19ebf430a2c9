import java.lang.reflect.Field;
import java.lang.reflect.InvocationTargetException;
import java.lang.reflect.Method;
import java.lang.reflect.Modifier;
import java.nio.charset.StandardCharsets;
import java.nio.file.Files;
import java.nio.file.Path;
import java.util.Arrays;
import java.util.Map;
import java.util.Random;
import java.util.Set;
import java.util.TreeMap;
import java.util.TreeSet;
import java.util.regex.Matcher;
import java.util.regex.Pattern;

/** The face of the class, what can be seen of the rules of LANGUAGE.md, and that no call ever throws. */
public final class FaceTest {
  private static final String FACE = "feed:int(int,int,int,int,int) end:int(int) house:int() fault:int(int) store:int(int) map:int(int,int) "
      + "place:int(int,int) taste:int(int,int) likes:int(int,int) trough:int(int,int) give:int(int,int,int) fold:int(int) put:int(int,int) "
      + "year:int() undo:boolean() redo:boolean() hungry:int() needs:int(int,int) over:int(int) bitesIn:int(int) will:int(int,int) "
      + "doom:int(int) bitten:int() gone:int() land:int(int) ration:int(int,int) keep:int(int,int) folds:int(int,int) drawers:int(int) "
      + "least:int() bites:int() odds:int(int,int,int) lies:int(int) trial:int(int,int,int,int,boolean) untell:boolean(int) later:int(int) "
      + "fit:int(int) sure:int(int,int) ask:int(int,int,int) image:int(int) back:int(int) about:int(int)";

  private static final Pattern METHOD = Pattern.compile("( +)(?!(?:if|for|while|switch|else|do|return)\\b)(?:(?:public|private|static|final) )*"
      + "\\w+(?:\\[\\])*(?: \\w+)?\\(.*\\{");

  public static void main(String[] args) throws Exception {
    face();
    inside();
    source(Files.readString(Path.of(args.length > 0 ? args[0] : "src/main/java/HungryMaps.java"), StandardCharsets.ISO_8859_1));
    neverThrows();
    Texts.finish("FaceTest");
  }

  private static void face() throws Exception {
    Class<?> c = HungryMaps.class;
    Texts.due("public", Modifier.isPublic(c.getModifiers()), true);
    Texts.due("final", Modifier.isFinal(c.getModifiers()), true);
    Texts.due("constructors", c.getDeclaredConstructors().length, 1);
    Texts.due("a constructor without arguments", c.getConstructors()[0].getParameterCount(), 0);
    Set<String> found = new TreeSet<>();
    for (Method m : c.getDeclaredMethods()) {
      if (Modifier.isPrivate(m.getModifiers()) || m.isSynthetic()) continue;
      Texts.due(m + " is public", Modifier.isPublic(m.getModifiers()), true);
      StringBuilder s = new StringBuilder(m.getName() + ":" + m.getReturnType() + "(");
      for (Class<?> p : m.getParameterTypes()) s.append(s.charAt(s.length() - 1) == '(' ? "" : ",").append(p);
      found.add(s + ")");
    }
    Set<String> wanted = new TreeSet<>(Arrays.asList(FACE.split(" ")));
    Texts.due("the methods are " + found, found.equals(wanted), true);
    for (Field f : c.getDeclaredFields()) {
      boolean isNone = f.getName().equals("NONE");
      Texts.due(f + " is private or NONE", Modifier.isPrivate(f.getModifiers()) || isNone && Modifier.isPublic(f.getModifiers()), true);
    }
    Texts.due("NONE", HungryMaps.class.getField("NONE").getInt(null), -1);
  }

  private static void inside() {
    Class<?>[] all = HungryMaps.class.getDeclaredClasses();
    Texts.due("at most twelve classes", all.length + 1 <= 12, true);
    Set<String> names = new TreeSet<>();
    for (Method m : HungryMaps.class.getDeclaredMethods()) if (Modifier.isPublic(m.getModifiers())) names.add(m.getName());
    for (Class<?> c : all) {
      Texts.due(c + " is static", Modifier.isStatic(c.getModifiers()), true);
      Texts.due(c + " is not public", Modifier.isPublic(c.getModifiers()) || Modifier.isProtected(c.getModifiers()), false);
      for (Method m : c.getDeclaredMethods()) {
        Texts.due(m + " bears a name of the face", names.contains(m.getName()), false);
        Texts.due(m + " has seven parameters at most", m.getParameterCount() <= 7, true);
      }
    }
    for (Class<?> c : HungryMaps.class.getNestHost().getNestMembers()) {
      int own = 0;
      for (Field f : c.getDeclaredFields()) {
        if (!Modifier.isStatic(f.getModifiers())) own++;
        else Texts.due(f + " is final", Modifier.isFinal(f.getModifiers()), true);
      }
      Texts.due(c + " has twenty fields at most", own <= 20, true);
    }
    for (Method m : HungryMaps.class.getDeclaredMethods()) {
      if (Modifier.isPrivate(m.getModifiers())) Texts.due(m + " bears a name of the face", names.contains(m.getName()), false);
    }
  }

  private static void source(String text) {
    String code = text.replaceAll("(?s)/\\*.*?\\*/", "").replaceAll("//[^\n]*", "").replaceAll("\"[^\"]*\"", "\"\"");
    for (String word : new String[] {"throw", "throws", "try", "catch", "finally", "synchronized", "assert", "package", "protected", "record",
        "enum", "Object", "System\\.(?!arraycopy)", "\\w+Exact", "hashCode", "toString", "volatile", "native", "var"}) {
      Texts.due("no " + word, Pattern.compile("\\b" + word + (word.endsWith(")") ? "" : "\\b")).matcher(code).find(), false);
    }
    for (String sign : new String[] {"->", "::", "\"\" +", "+ \"\"", "@"}) Texts.due("no " + sign, code.contains(sign), false);
    Matcher imports = Pattern.compile("import ([^;]*);").matcher(code);
    while (imports.find()) Texts.due("import of " + imports.group(1), imports.group(1).matches("java\\.util\\.(Arrays|ArrayList|List)"), true);
    for (int i = 0; i < text.length(); i++) if (text.charAt(i) > 126) Texts.due("sign " + i + " is plain", text.charAt(i), 126);
    String[] lines = text.split("\n");
    Map<String, Set<String>> calls = new TreeMap<>();
    int start = -1;
    String end = "";
    for (int i = 0; i < lines.length; i++) {
      Matcher head = METHOD.matcher(lines[i]);
      if (start < 0 && head.matches()) {
        start = i;
        end = head.group(1) + "}";
      }
      if (start >= 0 && lines[i].equals(end)) {
        Texts.due("lines of " + lines[start].trim() + " (" + (i - start + 1) + ") are sixty at most", i - start + 1 <= 60, true);
        Matcher names = Pattern.compile("(\\w+)\\(").matcher(String.join("\n", Arrays.copyOfRange(lines, start, i)));
        names.find();
        Set<String> called = calls.computeIfAbsent(names.group(1), name -> new TreeSet<>());
        while (names.find()) called.add(names.group(1));
        start = -1;
      }
    }
    Texts.due("methods are found", calls.size() > 60, true);
    for (String name : calls.keySet()) {
      int deep = deepest(calls, name, new TreeSet<>());
      Texts.due("calls from " + name + " go eight deep at most (" + deep + ")", deep <= 8, true);
    }
  }

  /** How many calls stand open at most below a method, itself too, where none stands twice. */
  private static int deepest(Map<String, Set<String>> calls, String name, Set<String> open) {
    if (!calls.containsKey(name) || !open.add(name)) return 0;
    int most = 0;
    for (String called : calls.get(name)) most = Math.max(most, deepest(calls, called, open));
    open.remove(name);
    return most + 1;
  }

  /** Calls in any order with any numbers, in houses that use most of what there is. */
  private static void neverThrows() throws Exception {
    String full = "food f 99;food g 9;food h 3;map a scale 9 hunger eaten*year%7+cold;map b scale 1 hunger 99/(year-3) in 1;map c scale 2 hunger 0-5 folded;"
        + "map d scale 3 hunger not year or cold and 5>3;place p size 60 worth 9 on a b c d;place q size 1 worth 0 on d;place r size 30 worth 5 on b;"
        + "place s size 7 worth 1 on c a;likes a f 0;likes b g 9;likes d h 5;border a b;border a d;border b d;taste worth*size-holes/(eaten-year);draw 17;";
    int[] numbers = {Integer.MIN_VALUE, Integer.MIN_VALUE + 1, -100, -2, -1, 0, 1, 2, 3, 4, 5, 7, 8, 12, 13, 24, 30, 31, 32, 33, 40, 41, 60, 99,
        100, 1000, 1600, Integer.MAX_VALUE - 1, Integer.MAX_VALUE};
    Method[] methods = Arrays.stream(HungryMaps.class.getDeclaredMethods()).filter(m -> Modifier.isPublic(m.getModifiers()))
        .sorted((m, n) -> m.getName().compareTo(n.getName())).toArray(Method[]::new);
    for (int run = 0; run < 300; run++) {
      Random random = new Random(run);
      HungryMaps x = run % 5 == 0 ? new HungryMaps() : Texts.house(full);
      for (int call = 0; call < 500; call++) {
        Method m = methods[random.nextInt(methods.length)];
        if (m.getName().equals("house") && random.nextInt(20) != 0) continue;
        Object[] with = new Object[m.getParameterCount()];
        boolean isNear = random.nextBoolean();
        for (int i = 0; i < with.length; i++) {
          boolean isTruth = m.getParameterTypes()[i] == boolean.class;
          if (isTruth) with[i] = random.nextBoolean();
          else with[i] = isNear ? random.nextInt(5) : random.nextInt(4) == 0 ? random.nextInt() : numbers[random.nextInt(numbers.length)];
        }
        try {
          m.invoke(x, with);
        } catch (InvocationTargetException e) {
          Texts.due(m.getName() + Arrays.toString(with) + " threw " + e.getCause(), 1, 0);
        }
      }
    }
  }
}
