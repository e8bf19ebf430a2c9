import java.util.ArrayDeque;
import java.util.ArrayList;
import java.util.Deque;
import java.util.HashMap;
import java.util.List;
import java.util.Map;
import java.util.Set;

/** The document once more, written apart from the class and without care for speed, to hold it against. */
final class Model {
  static final Set<String> WORDS = Set.of("food", "map", "scale", "hunger", "in", "folded", "place", "size", "worth", "on",
      "likes", "border", "taste", "winter", "draw", "or", "and", "not", "year", "eaten", "cold", "holes");
  static final Set<String> VARIABLES = Set.of("scale", "year", "eaten", "cold", "size", "worth", "holes");

  interface Expr { int at(Map<String, Integer> values); }

  static final class Fault extends Exception {
    private static final long serialVersionUID = 1L;
    final int kind, at;
    Fault(int kind, int at) { this.kind = kind; this.at = at; }
  }

  record Token(String text, int at) {
    boolean isNumber() { return !text.isEmpty() && Character.isDigit(text.charAt(0)); }
    boolean isName() { return !text.isEmpty() && text.charAt(0) >= 'a' && text.charAt(0) <= 'z' && !WORDS.contains(text); }
    boolean isBad() { return text.equals("!"); }
  }

  static final class FoodLine { String name; int store; }
  static final class MapLine { String name; int scale, drawer; boolean folded; Expr hunger; }
  static final class PlaceLine { String name; int size, worth; List<Integer> maps = new ArrayList<>(); }

  static final class Plan {
    List<FoodLine> foods = new ArrayList<>();
    List<MapLine> maps = new ArrayList<>();
    List<PlaceLine> places = new ArrayList<>();
    Map<String, Integer> likes = new HashMap<>();
    List<int[]> borders = new ArrayList<>();
    Expr taste;
    boolean winter;
    Integer draw;
    int units;

    int liking(int map, int food) { return likes.getOrDefault(map + " " + food, 1); }
    boolean borders(int a, int b) {
      return borders.stream().anyMatch(x -> x[0] == a && x[1] == b || x[0] == b && x[1] == a);
    }
    int mapIndex(String name) {
      for (int i = 0; i < maps.size(); i++) if (maps.get(i).name.equals(name)) return i;
      return -1;
    }
    int foodIndex(String name) {
      for (int i = 0; i < foods.size(); i++) if (foods.get(i).name.equals(name)) return i;
      return -1;
    }
  }

  static final class Parser {
    final List<Token> tokens = new ArrayList<>();
    int i = 0, units = 0;
    final Plan plan = new Plan();

    Parser(byte[] text) {
      int p = 0;
      while (p < text.length) {
        char c = (char) (text[p] & 255);
        int q = p;
        if (c == ' ' || c == '\n') { p++; continue; }
        if (c >= 'a' && c <= 'z') {
          if (p > 0 && text[p - 1] >= '0' && text[p - 1] <= '9') { tokens.add(new Token("!", p)); return; }
          while (q < text.length && q - p < 8 && text[q] >= 'a' && text[q] <= 'z') q++;
        } else if (c >= '0' && c <= '9') {
          while (q < text.length && q - p < 4 && text[q] >= '0' && text[q] <= '9') q++;
        } else if (";()<>=+-*/%".indexOf(c) >= 0) {
          q++;
        } else {
          tokens.add(new Token("!", p));
          return;
        }
        tokens.add(new Token(new String(text, p, q - p, java.nio.charset.StandardCharsets.ISO_8859_1), p));
        p = q;
      }
      tokens.add(new Token("", text.length));
    }

    Token peek() { return tokens.get(i); }
    Fault cannot() { return new Fault(peek().isBad() ? 1 : 2, peek().at); }
    void word(String w) throws Fault { if (!peek().text.equals(w)) throw cannot(); i++; }
    String name() throws Fault { if (!peek().isName()) throw cannot(); return tokens.get(i++).text; }
    int number(int low, int high) throws Fault {
      if (!peek().isNumber()) throw cannot();
      int n = Integer.parseInt(peek().text);
      if (n < low || n > high) throw new Fault(4, peek().at);
      i++;
      return n;
    }

    Plan parse() throws Fault {
      while (!peek().text.isEmpty()) line();
      return plan;
    }

    void line() throws Fault {
      String w = peek().text;
      int likes = plan.likes.size();
      if (w.equals("food") && plan.foods.size() < 3) food();
      else if (w.equals("map") && plan.maps.size() < 4) map();
      else if (w.equals("place") && plan.places.size() < 8) place();
      else if (w.equals("likes") && likes < 12) likes();
      else if (w.equals("border") && plan.borders.size() < 6) border();
      else if (w.equals("taste") && plan.taste == null) { i++; units = 0; plan.taste = e(0); }
      else if (w.equals("winter") && !plan.winter) { i++; plan.winter = true; }
      else if (w.equals("draw") && plan.draw == null) { i++; plan.draw = number(0, 999); }
      else throw cannot();
      word(";");
    }

    void food() throws Fault {
      i++;
      FoodLine f = new FoodLine();
      int at = peek().at;
      f.name = name();
      if (plan.foodIndex(f.name) >= 0) throw new Fault(3, at);
      f.store = number(0, 99);
      plan.foods.add(f);
    }

    void map() throws Fault {
      i++;
      MapLine m = new MapLine();
      int at = peek().at;
      m.name = name();
      if (plan.mapIndex(m.name) >= 0) throw new Fault(3, at);
      word("scale");
      m.scale = number(1, 9);
      word("hunger");
      units = 0;
      m.hunger = e(0);
      if (peek().text.equals("in")) { i++; m.drawer = number(0, 3); }
      if (peek().text.equals("folded")) { i++; m.folded = true; }
      plan.maps.add(m);
    }

    void place() throws Fault {
      i++;
      PlaceLine p = new PlaceLine();
      int at = peek().at;
      p.name = name();
      for (PlaceLine q : plan.places) if (q.name.equals(p.name)) throw new Fault(3, at);
      word("size");
      p.size = number(1, 60);
      word("worth");
      p.worth = number(0, 9);
      word("on");
      do {
        at = peek().at;
        int m = plan.mapIndex(name());
        if (m < 0) throw new Fault(5, at);
        if (p.maps.contains(m)) throw new Fault(3, at);
        p.maps.add(m);
      } while (peek().isName());
      plan.places.add(p);
    }

    void likes() throws Fault {
      i++;
      int at = peek().at;
      int m = plan.mapIndex(name());
      if (m < 0) throw new Fault(5, at);
      at = peek().at;
      int f = plan.foodIndex(name());
      if (f < 0) throw new Fault(5, at);
      if (plan.likes.containsKey(m + " " + f)) throw new Fault(3, at);
      plan.likes.put(m + " " + f, number(0, 9));
    }

    void border() throws Fault {
      i++;
      int at = peek().at;
      int a = plan.mapIndex(name());
      if (a < 0) throw new Fault(5, at);
      at = peek().at;
      int b = plan.mapIndex(name());
      if (b < 0) throw new Fault(5, at);
      if (a == b || plan.borders(a, b)) throw new Fault(3, at);
      plan.borders.add(new int[] {a, b});
    }

    Expr e(int within) throws Fault {
      Expr a = both(within);
      while (peek().text.equals("or")) {
        i++;
        Expr l = a, r = both(within);
        a = v -> l.at(v) != 0 | r.at(v) != 0 ? 1 : 0;
      }
      return a;
    }

    Expr both(int within) throws Fault {
      Expr a = one(within);
      while (peek().text.equals("and")) {
        i++;
        Expr l = a, r = one(within);
        a = v -> l.at(v) != 0 & r.at(v) != 0 ? 1 : 0;
      }
      return a;
    }

    Expr one(int within) throws Fault {
      if (peek().text.equals("not")) {
        if (within > 6) throw cannot();
        i++;
        Expr a = one(within + 1);
        return v -> a.at(v) != 0 ? 0 : 1;
      }
      Expr a = sum(within);
      String s = peek().text;
      if (s.equals("<") || s.equals(">") || s.equals("=")) {
        i++;
        Expr b = sum(within);
        return v -> {
          int x = a.at(v), y = b.at(v);
          return (s.equals("<") ? x < y : s.equals(">") ? x > y : x == y) ? 1 : 0;
        };
      }
      return a;
    }

    Expr sum(int within) throws Fault {
      Expr a = term(within);
      while (peek().text.equals("+") || peek().text.equals("-")) {
        boolean plus = tokens.get(i++).text.equals("+");
        Expr l = a, r = term(within);
        a = v -> plus ? l.at(v) + r.at(v) : l.at(v) - r.at(v);
      }
      return a;
    }

    Expr term(int within) throws Fault {
      Expr a = unit(within);
      while (peek().text.equals("*") || peek().text.equals("/") || peek().text.equals("%")) {
        String s = tokens.get(i++).text;
        Expr l = a, r = unit(within);
        a = v -> {
          int x = l.at(v), y = r.at(v);
          return s.equals("*") ? x * y : y == 0 ? 0 : s.equals("/") ? x / y : x % y;
        };
      }
      return a;
    }

    Expr unit(int within) throws Fault {
      Token t = peek();
      boolean opens = t.text.equals("(");
      if (!opens && !t.isNumber() && !VARIABLES.contains(t.text)) throw cannot();
      if (++units > 30 || ++plan.units > 90 || opens && within > 6) throw new Fault(2, t.at);
      i++;
      if (opens) {
        Expr a = e(within + 1);
        word(")");
        return a;
      }
      if (t.isNumber()) {
        int n = Integer.parseInt(t.text);
        return v -> n;
      }
      return v -> v.getOrDefault(t.text, 0);
    }
  }

  static final class World implements Cloneable {
    int[] store = new int[3], size = new int[8], holes = new int[8], eaten = new int[4], drawer = new int[4];
    int[][] trough = new int[4][3];
    boolean[] folded = new boolean[4];
    int year, cold, seed;

    World copy() {
      World w = new World();
      w.store = store.clone();
      w.size = size.clone();
      w.holes = holes.clone();
      w.eaten = eaten.clone();
      w.drawer = drawer.clone();
      for (int i = 0; i < 4; i++) w.trough[i] = trough[i].clone();
      w.folded = folded.clone();
      w.year = year;
      w.cold = cold;
      w.seed = seed;
      return w;
    }
  }

  byte[] tape = new byte[0];
  Plan plan = new Plan();
  World now = new World();
  Deque<World> done = new ArrayDeque<>(), undone = new ArrayDeque<>();
  World[] boxes = new World[3];
  int[] fault = {0, -1};
  List<Integer> lying = new ArrayList<>();
  List<int[]> trials = new ArrayList<>();
  int time = 0;

  boolean food(int f) { return f >= 0 && f < plan.foods.size(); }
  boolean isMap(int m) { return m >= 0 && m < plan.maps.size(); }
  boolean isPlace(int p) { return p >= 0 && p < plan.places.size(); }

  int feed(int a, int b, int c, int d, int e) {
    if (tape.length + 20 > 1600) return -1;
    java.nio.ByteBuffer x = java.nio.ByteBuffer.allocate(tape.length + 20);
    tape = x.put(tape).putInt(a).putInt(b).putInt(c).putInt(d).putInt(e).array();
    return tape.length;
  }

  int end(int n) {
    if (n < 0 || n > tape.length) return -1;
    tape = java.util.Arrays.copyOf(tape, n);
    return n;
  }

  int house() {
    try {
      plan = new Parser(tape).parse();
    } catch (Fault f) {
      fault = new int[] {f.kind, f.at};
      return -1;
    }
    fault = new int[] {0, -1};
    tape = new byte[0];
    now = new World();
    for (int i = 0; i < plan.foods.size(); i++) now.store[i] = plan.foods.get(i).store;
    for (int i = 0; i < plan.places.size(); i++) now.size[i] = plan.places.get(i).size;
    for (int i = 0; i < plan.maps.size(); i++) {
      now.drawer[i] = plan.maps.get(i).drawer;
      now.folded[i] = plan.maps.get(i).folded;
    }
    now.cold = plan.winter ? 1 : 0;
    now.seed = plan.draw == null ? 0 : plan.draw;
    done.clear();
    undone.clear();
    boxes = new World[3];
    lying.clear();
    trials.clear();
    return plan.maps.size();
  }

  int fault(int what) { return what == 0 || what == 1 ? fault[what] : -1; }
  int store(int f) { return food(f) ? now.store[f] : -1; }

  int hunger(World w, int m) {
    if (w.folded[m]) return 0;
    MapLine line = plan.maps.get(m);
    int h = line.hunger.at(Map.of("scale", line.scale, "year", w.year, "eaten", w.eaten[m], "cold", w.cold));
    h = Math.max(0, Math.min(99, h));
    for (int[] b : plan.borders) {
      int other = b[0] == m ? b[1] : b[1] == m ? b[0] : -1;
      if (other >= 0 && !w.folded[other] && w.drawer[other] == w.drawer[m]) h += 2;
    }
    return Math.min(99, h);
  }

  int given(World w, int m) {
    int g = 0;
    for (int f = 0; f < plan.foods.size(); f++) g += w.trough[m][f] * plan.liking(m, f);
    return g;
  }

  int taste(World w, int p, int m) {
    if (plan.taste == null) return w.size[p];
    return plan.taste.at(Map.of("scale", plan.maps.get(m).scale, "year", w.year, "eaten", w.eaten[m], "cold", w.cold,
        "size", w.size[p], "worth", plan.places.get(p).worth, "holes", w.holes[p]));
  }

  void pass(World w) {
    for (int m = 0; m < plan.maps.size(); m++) {
      int h = hunger(w, m), g = given(w, m), left = h - g;
      while (left > 0) {
        int best = -1;
        for (int p = 0; p < plan.places.size(); p++) {
          if (!plan.places.get(p).maps.contains(m) || w.size[p] == 0) continue;
          if (best < 0 || taste(w, p, m) > taste(w, best, m)) best = p;
        }
        if (best < 0) break;
        int bite = Math.min(left, w.size[best]);
        w.size[best] -= bite;
        w.holes[best]++;
        w.eaten[m] += bite;
        left -= bite;
      }
      if (g > h) {
        int best = -1;
        for (int p = 0; p < plan.places.size(); p++) {
          if (plan.places.get(p).maps.contains(m) && (best < 0 || w.size[p] < w.size[best])) best = p;
        }
        if (best >= 0) w.size[best] = Math.min(60, w.size[best] + g - h);
      }
    }
    w.trough = new int[4][3];
    w.seed = (w.seed * 137 + 71) % 1000;
    w.cold = w.seed / 10 % 2;
    w.year++;
  }

  World after(World w, int n) {
    World v = w.copy();
    for (int i = 0; i < n; i++) pass(v);
    return v;
  }

  int smaller(World a, World b) {
    int bits = 0;
    for (int p = 0; p < 8; p++) if (b.size[p] < a.size[p]) bits |= 1 << p;
    return bits;
  }

  int goneIn(World w) {
    int bits = 0;
    for (int p = 0; p < plan.places.size(); p++) if (w.size[p] == 0) bits |= 1 << p;
    return bits;
  }

  int worthOf(World w) {
    int sum = 0;
    for (int p = 0; p < plan.places.size(); p++) sum += w.size[p] * plan.places.get(p).worth;
    return sum;
  }

  void act() {
    done.push(now.copy());
    undone.clear();
    if (done.size() > 40) done.removeLast();
  }

  int map(int m, int what) {
    if (!isMap(m)) return -1;
    int bits = 0;
    switch (what) {
      case 0: return plan.maps.get(m).scale;
      case 1: return hunger(now, m);
      case 2: return given(now, m);
      case 3: return now.eaten[m];
      case 4: return now.folded[m] ? 1 : 0;
      case 5: return now.drawer[m];
      case 6:
        for (int p = 0; p < plan.places.size(); p++) if (plan.places.get(p).maps.contains(m)) bits += 1 << p;
        return bits;
      case 7:
        for (int o = 0; o < plan.maps.size(); o++) if (plan.borders(m, o)) bits += 1 << o;
        return bits;
      default: return -1;
    }
  }

  int place(int p, int what) {
    if (!isPlace(p)) return -1;
    int bits = 0;
    for (int m : plan.places.get(p).maps) bits += 1 << m;
    return what == 0 ? now.size[p] : what == 1 ? plan.places.get(p).worth : what == 2 ? now.holes[p] : what == 3 ? bits : -1;
  }

  int taste(int p, int m) { return isPlace(p) && isMap(m) ? taste(now, p, m) : -1000000; }
  int likes(int m, int f) { return isMap(m) && food(f) ? plan.liking(m, f) : -1; }
  int trough(int m, int f) { return isMap(m) && food(f) ? now.trough[m][f] : -1; }

  int give(int m, int f, int n) {
    if (!isMap(m) || !food(f) || n < 1 || n > 99 || n > now.store[f]) return -1;
    act();
    now.trough[m][f] += n;
    return now.store[f] -= n;
  }

  int fold(int m) {
    if (!isMap(m)) return -1;
    act();
    now.folded[m] = !now.folded[m];
    return now.folded[m] ? 1 : 0;
  }

  int put(int m, int d) {
    if (!isMap(m) || d < 0 || d > 3) return -1;
    act();
    int was = now.drawer[m];
    now.drawer[m] = d;
    return was;
  }

  int year() {
    if (now.year >= 999) return -1;
    act();
    World before = now.copy();
    pass(now);
    return Integer.bitCount(smaller(before, now));
  }

  boolean undo() {
    if (done.isEmpty()) return false;
    undone.push(now);
    now = done.pop();
    return true;
  }

  boolean redo() {
    if (undone.isEmpty()) return false;
    done.push(now);
    now = undone.pop();
    return true;
  }

  int hungry() {
    int bits = 0;
    for (int m = 0; m < plan.maps.size(); m++) if (given(now, m) < hunger(now, m)) bits |= 1 << m;
    return bits;
  }

  int needs(int m, int f) {
    if (!isMap(m) || !food(f)) return -1;
    for (int n = 0; n < 5000; n++) if (given(now, m) + n * plan.liking(m, f) >= hunger(now, m)) return n;
    return -1;
  }

  int over(int m) { return isMap(m) ? Math.max(0, given(now, m) - hunger(now, m)) : -1; }

  int bitesIn(int m) {
    if (!isMap(m)) return -1;
    for (int i = 0; i < 30; i++) if (after(now, i + 1).eaten[m] > after(now, i).eaten[m]) return i;
    return -1;
  }

  int will(int p, int n) { return isPlace(p) && n >= 0 && n <= 40 ? after(now, n).size[p] : -1; }

  int doom(int what) {
    if (what < 0 || what > 1) return -1;
    for (int n = 1; n <= 30; n++) {
      World w = after(now, n);
      for (int p = 0; p < 8; p++) if (now.size[p] > 0 && w.size[p] == 0) return what == 0 ? n : p;
    }
    return -1;
  }

  int bitten() { return smaller(now, after(now, 1)); }
  int gone() { return goneIn(now); }
  int land(int n) { return n < 0 || n > 40 ? -1 : worthOf(after(now, n)); }

  /** All ways to part n among so many, in the order of the document. */
  static List<int[]> parts(int n, int among) {
    List<int[]> all = new ArrayList<>();
    if (among == 0) {
      if (n == 0) all.add(new int[0]);
      return all;
    }
    for (int first = 0; first <= n; first++) {
      for (int[] rest : parts(n - first, among - 1)) {
        int[] way = new int[among];
        way[0] = first;
        System.arraycopy(rest, 0, way, 1, among - 1);
        all.add(way);
      }
    }
    return all;
  }

  World fedBy(int f, int[] way) {
    World w = now.copy();
    for (int m = 0; m < way.length; m++) w.trough[m][f] += way[m];
    pass(w);
    return w;
  }

  void lay(int[] way) {
    lying.clear();
    for (int n : way) lying.add(n);
  }

  int ration(int f, int set) {
    lying.clear();
    if (!food(f) || set < 0 || set >= 1 << plan.places.size()) return -1;
    for (int n = 0; n <= 24 && n <= now.store[f]; n++) {
      for (int[] way : parts(n, plan.maps.size())) {
        if ((smaller(now, fedBy(f, way)) & set) == 0) {
          lay(way);
          return n;
        }
      }
    }
    return -1;
  }

  int keep(int f, int n) {
    lying.clear();
    if (!food(f) || plan.maps.isEmpty() || n < 0 || n > 12 || n > now.store[f]) return -1;
    int best = -1;
    for (int[] way : parts(n, plan.maps.size())) {
      int land = worthOf(fedBy(f, way));
      if (land > best) {
        best = land;
        lay(way);
      }
    }
    return best;
  }

  int folds(int n, int what) {
    if (n < 1 || n > 20 || what < 0 || what > 1) return -1;
    int best = -1;
    for (int set = 0; set < 1 << plan.maps.size(); set++) {
      World w = now.copy();
      boolean fits = true;
      for (int m = 0; m < plan.maps.size(); m++) {
        if ((set >> m & 1) == 0) continue;
        if (w.folded[m]) fits = false;
        w.folded[m] = true;
      }
      if (!fits || (goneIn(after(w, n)) & ~goneIn(now)) != 0) continue;
      if (best < 0 || Integer.bitCount(set) < Integer.bitCount(best)) best = set;
    }
    return best < 0 || what == 1 ? best : Integer.bitCount(best);
  }

  int ways(int n, int[] drawer, int m, List<int[]> found) {
    if (m == plan.maps.size()) {
      found.add(java.util.Arrays.copyOf(drawer, m));
      return 1;
    }
    int sum = 0;
    for (int d = 0; d < n; d++) {
      boolean free = true;
      for (int o = 0; o < m; o++) free &= !(plan.borders(m, o) && drawer[o] == d);
      if (!free) continue;
      drawer[m] = d;
      sum += ways(n, drawer, m + 1, found);
    }
    return sum;
  }

  int drawers(int n) {
    if (n < 1 || n > 4) return -1;
    List<int[]> found = new ArrayList<>();
    int ways = ways(n, new int[4], 0, found);
    lay(ways == 0 ? new int[0] : found.get(0));
    return ways;
  }

  int least() {
    if (plan.maps.isEmpty()) return 0;
    for (int n = 1; n <= 4; n++) if (ways(n, new int[4], 0, new ArrayList<>()) > 0) return n;
    return -1;
  }

  int bites() {
    int n = 0;
    for (int[] b : plan.borders) {
      if (!now.folded[b[0]] && !now.folded[b[1]] && now.drawer[b[0]] == now.drawer[b[1]]) n++;
    }
    return n;
  }

  int odds(int p, int n, int part) {
    if (!isPlace(p) || n < 0 || n > 7 || part < 0 || part > 1) return -1;
    int all = 1 << Math.max(0, n - 1), standing = 0;
    for (int way = 0; way < all; way++) {
      World w = now.copy();
      for (int y = 0; y < n; y++) {
        if (y > 0) w.cold = way >> y - 1 & 1;
        pass(w);
      }
      if (w.size[p] > 0) standing++;
    }
    int g = java.math.BigInteger.valueOf(standing).gcd(java.math.BigInteger.valueOf(all)).intValue();
    return (part == 0 ? standing : all) / g;
  }

  int lies(int i) { return i >= 0 && i < lying.size() ? lying.get(i) : -1; }

  int trial(int a, int b, int c, int h, boolean full) {
    for (int x : new int[] {a, b, c}) if (x < 0 || x > 9) return -1;
    if (h < 1 || h > 99 || trials.size() == 30) return -1;
    trials.add(new int[] {a, b, c, h, full ? 1 : 0, time, Integer.MAX_VALUE});
    return trials.size() - 1;
  }

  boolean untell(int t) {
    if (t < 0 || t >= trials.size() || trials.get(t)[6] != Integer.MAX_VALUE) return false;
    trials.get(t)[6] = time;
    return true;
  }

  int later(int by) {
    if (by < 0 || by > 1000 || time + by > 100000) return -1;
    return time += by;
  }

  List<int[]> fitting(int k) {
    List<int[]> all = new ArrayList<>();
    int n = plan.foods.size();
    for (int code = 0; code < (int) Math.round(Math.pow(6, n)); code++) {
      int[] l = new int[3];
      int rest = code;
      for (int f = 0; f < n; f++) {
        l[f] = rest % 6;
        rest /= 6;
      }
      boolean fits = true;
      for (int[] t : trials) {
        if (t[5] > k || t[6] <= k && t[6] != Integer.MAX_VALUE) continue;
        int given = t[0] * l[0] + t[1] * l[1] + t[2] * l[2];
        fits &= given >= t[3] == (t[4] == 1);
      }
      if (fits) all.add(l);
    }
    return all;
  }

  int fit(int k) { return fitting(k).size(); }

  int sure(int f, int k) {
    List<int[]> all = fitting(k);
    if (all.isEmpty() || !food(f)) return -1;
    for (int[] l : all) if (l[f] != all.get(0)[f]) return -2;
    return all.get(0)[f];
  }

  int ask(int h, int what, int k) {
    List<int[]> all = fitting(k);
    if (h < 1 || h > 99 || what < 0 || what > 1 || all.isEmpty() || plan.foods.isEmpty()) return -1;
    int best = -1, fewest = Integer.MAX_VALUE;
    for (int f = 0; f < plan.foods.size(); f++) {
      for (int n = 1; n <= 9; n++) {
        int full = 0;
        for (int[] l : all) if (l[f] * n >= h) full++;
        int left = Math.max(full, all.size() - full);
        if (left < fewest) {
          fewest = left;
          best = 10 * f + n;
        }
      }
    }
    return what == 0 ? best : fewest;
  }

  int image(int b) {
    if (b < 0 || b > 2) return -1;
    boxes[b] = now.copy();
    return now.year;
  }

  int back(int b) {
    if (b < 0 || b > 2 || boxes[b] == null) return -1;
    now = boxes[b].copy();
    done.clear();
    undone.clear();
    return now.year;
  }

  int about(int what) {
    int folded = 0;
    for (int m = 0; m < 4; m++) if (now.folded[m]) folded |= 1 << m;
    int[] all = {plan.maps.size(), plan.foods.size(), plan.places.size(), plan.borders.size(), now.year, now.cold, now.seed,
        folded, done.size(), undone.size(), trials.size(), time, tape.length, plan.units, lying.size()};
    return what >= 0 && what < all.length ? all[what] : -1;
  }
}
