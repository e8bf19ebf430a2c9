import java.lang.reflect.Method;
import java.lang.reflect.Modifier;
import java.nio.charset.StandardCharsets;
import java.nio.file.Files;
import java.nio.file.Path;
import java.util.Set;
import java.util.TreeSet;
import java.util.regex.Matcher;
import java.util.regex.Pattern;

/** What README.md shows is what the class answers, and it names every call and every test. */
public final class ReadmeTest {
  private static final Pattern CALL = Pattern.compile("(?m)^x\\.(\\w+)\\((.*)\\); +// (-?\\d+|true|false)\\b");

  public static void main(String[] args) throws Exception {
    // Told where the class is, the page stands four directories above its own.
    Path main = Path.of(args.length > 0 ? args[0] : "src/main/java/HungryMaps.java").toAbsolutePath();
    Path root = main.getParent().getParent().getParent().getParent();
    String page = Files.readString(root.resolve("README.md"), StandardCharsets.UTF_8);
    examples(page);
    names(page, root);
    Texts.finish("ReadmeTest");
  }

  private static void examples(String page) throws Exception {
    Matcher block = Pattern.compile("(?s)```text\n(.*?)```").matcher(page);
    Texts.due("there is a house", block.find(), true);
    String house = block.group(1);
    HungryMaps x = new HungryMaps();
    Texts.due("its maps", tell(x, house), 2);
    Matcher call = CALL.matcher(page);
    int calls = 0;
    for (; call.find(); calls++) {
      String told = call.group(1) + "(" + call.group(2) + ")";
      Texts.due(told, answer(x, call.group(1), call.group(2)), number(call.group(3)));
    }
    Texts.due("every line that calls has its answer", page.split("(?m)^x\\.", -1).length - 1, calls);
    Texts.due("there are calls", calls > 10, true);
  }

  /** As the page has it. */
  private static int tell(HungryMaps x, String text) {
    StringBuilder filled = new StringBuilder(text);
    while (filled.length() % 20 != 0) filled.append(' ');
    int[] n = new int[filled.length() / 4];
    for (int i = 0; i < filled.length(); i++) n[i / 4] = n[i / 4] << 8 | filled.charAt(i) & 255;
    for (int i = 0; i < n.length; i += 5) x.feed(n[i], n[i + 1], n[i + 2], n[i + 3], n[i + 4]);
    x.end(text.length());
    return x.house();
  }

  private static long number(String word) {
    return word.equals("true") ? 1 : word.equals("false") ? 0 : Long.parseLong(word);
  }

  private static long answer(HungryMaps x, String name, String list) throws Exception {
    String[] words = list.isEmpty() ? new String[0] : list.split(", ");
    for (Method m : HungryMaps.class.getMethods()) {
      if (!m.getName().equals(name)) continue;
      Object[] with = new Object[words.length];
      for (int i = 0; i < words.length; i++) {
        if (m.getParameterTypes()[i] == boolean.class) with[i] = Boolean.valueOf(words[i]);
        else with[i] = Integer.valueOf(words[i]);
      }
      Object got = m.invoke(x, with);
      return got instanceof Boolean b ? b ? 1 : 0 : (Integer) got;
    }
    Texts.due("there is a call " + name, false, true);
    return 0;
  }

  private static void names(String page, Path root) throws Exception {
    Set<String> all = new TreeSet<>();
    for (Method m : HungryMaps.class.getDeclaredMethods()) if (Modifier.isPublic(m.getModifiers())) all.add(m.getName());
    try (var files = Files.list(root.resolve("src/test/java"))) {
      files.map(f -> f.getFileName().toString()).filter(f -> f.endsWith("Test.java")).forEach(f -> all.add(f.replace(".java", "")));
    }
    for (String name : all) Texts.due("the page names " + name, page.contains("`" + name + "`"), true);
    for (String name : new String[] {".ci/run", "javac", "HungryMaps.NONE"}) Texts.due("the page names " + name, page.contains(name), true);
  }
}
