import java.util.Random;

/** Random houses, good and marred, and random calls: the class and the model must answer alike. */
public final class ModelTest {
  private final Random random;
  private final HungryMaps x = new HungryMaps();
  private final Model m = new Model();
  private final StringBuilder told = new StringBuilder();

  private ModelTest(long seed) { random = new Random(seed); }

  public static void main(String[] args) {
    int runs = args.length > 1 ? Integer.parseInt(args[1]) : 1500;
    for (int seed = 0; seed < runs; seed++) {
      if (!new ModelTest(seed).run()) {
        System.out.println("in run " + seed);
        System.exit(1);
      }
    }
    System.out.println("ModelTest: " + runs + " runs alike");
  }

  private int below(int n) { return random.nextInt(n); }
  private boolean once(int in) { return random.nextInt(in) == 0; }

  private boolean run() {
    if (!tell(once(4) ? mar(text()) : text())) return false;
    int calls = 40 + below(120);
    for (int i = 0; i < calls; i++) {
      if (once(60)) {
        if (!tell(once(2) ? mar(text()) : text())) return false;
      } else if (!call()) {
        return false;
      }
    }
    return true;
  }

  private boolean alike(String call, long got, long want) {
    told.append(call).append(" -> ").append(want).append('\n');
    if (got == want) return true;
    System.out.println(told);
    System.out.println(call + " answered " + got + ", the model says " + want);
    return false;
  }

  private boolean alike(String call, boolean got, boolean want) { return alike(call, got ? 1 : 0, want ? 1 : 0); }

  private boolean tell(String text) {
    told.append("'").append(text).append("'\n");
    x.end(0);
    m.end(0);
    int[] n = Texts.numbers(text);
    for (int i = 0; i < n.length; i += 5) {
      if (!alike("feed", x.feed(n[i], n[i + 1], n[i + 2], n[i + 3], n[i + 4]),
          m.feed(n[i], n[i + 1], n[i + 2], n[i + 3], n[i + 4]))) return false;
    }
    return alike("end", x.end(text.length()), m.end(text.length())) && alike("house", x.house(), m.house())
        && alike("fault 0", x.fault(0), m.fault(0)) && alike("fault 1", x.fault(1), m.fault(1)) && all();
  }

  /** Every plain question, over all that can be and a little beyond. */
  private boolean all() {
    boolean ok = true;
    for (int i = -1; i < 16 && ok; i++) ok = alike("about " + i, x.about(i), m.about(i));
    for (int i = -1; i < 9 && ok; i++) {
      for (int j = -1; j < 9 && ok; j++) {
        ok = alike("map " + i + " " + j, x.map(i, j), m.map(i, j))
            && alike("place " + i + " " + j, x.place(i, j), m.place(i, j))
            && alike("taste " + i + " " + j, x.taste(i, j), m.taste(i, j))
            && alike("likes " + i + " " + j, x.likes(i, j), m.likes(i, j))
            && alike("trough " + i + " " + j, x.trough(i, j), m.trough(i, j));
      }
      ok = ok && alike("store " + i, x.store(i), m.store(i)) && alike("lies " + i, x.lies(i), m.lies(i));
    }
    return ok;
  }

  private boolean call() {
    int a = below(5) - (once(9) ? 1 : 0), b = below(4) - (once(9) ? 1 : 0), n = below(14) - 1, k = below(8) - 1;
    boolean full = random.nextBoolean();
    switch (below(44)) {
      case 0: return alike("store " + a, x.store(a), m.store(a));
      case 1: return alike("map " + a + " " + n, x.map(a, n), m.map(a, n));
      case 2: return alike("place " + n + " " + b, x.place(n, b), m.place(n, b));
      case 3: return alike("taste " + k + " " + a, x.taste(k, a), m.taste(k, a));
      case 4: case 5: case 6: case 7:
        return alike("give " + a + " " + b + " " + n, x.give(a, b, n), m.give(a, b, n));
      case 8: return alike("fold " + a, x.fold(a), m.fold(a));
      case 9: case 10: return alike("put " + a + " " + b, x.put(a, b), m.put(a, b));
      case 11: case 12: case 13: return alike("year", x.year(), m.year()) && all();
      case 14: case 15: return alike("undo", x.undo(), m.undo()) && all();
      case 16: case 17: return alike("redo", x.redo(), m.redo()) && all();
      case 18: return alike("hungry", x.hungry(), m.hungry()) && alike("bitten", x.bitten(), m.bitten());
      case 19: return alike("needs " + a + " " + b, x.needs(a, b), m.needs(a, b));
      case 20: return alike("over " + a, x.over(a), m.over(a));
      case 21: return alike("bitesIn " + a, x.bitesIn(a), m.bitesIn(a));
      case 22: {
        int years = below(43) - 1;
        return alike("will " + k + " " + years, x.will(k, years), m.will(k, years))
            && alike("land " + years, x.land(years), m.land(years));
      }
      case 23: return alike("doom " + b, x.doom(b), m.doom(b)) && alike("doom 1", x.doom(1), m.doom(1));
      case 24: return alike("gone", x.gone(), m.gone()) && alike("bites", x.bites(), m.bites());
      case 25: {
        int set = below(20) == 0 ? below(600) - 100 : below(1 << Math.min(8, m.about(2) + (once(5) ? 1 : 0)));
        if (m.store(b) > 12 && !once(12)) set &= 3;
        return alike("ration " + b + " " + set, x.ration(b, set), m.ration(b, set)) && lies();
      }
      case 26: return alike("keep " + b + " " + n, x.keep(b, n), m.keep(b, n)) && lies();
      case 27: {
        int years = below(23) - 1;
        return alike("folds " + years + " 0", x.folds(years, 0), m.folds(years, 0))
            && alike("folds " + years + " " + b, x.folds(years, b), m.folds(years, b));
      }
      case 28: return alike("drawers " + n, x.drawers(n), m.drawers(n)) && lies();
      case 29: return alike("least", x.least(), m.least());
      case 30: case 31: {
        int years = below(10) - 1;
        return alike("odds " + k + " " + years + " 0", x.odds(k, years, 0), m.odds(k, years, 0))
            && alike("odds " + k + " " + years + " " + b, x.odds(k, years, b), m.odds(k, years, b));
      }
      case 32: return lies();
      case 33: case 34: case 35: {
        int h = once(9) ? below(110) - 5 : 1 + below(30);
        int p = below(10), q = below(10), r = once(9) ? below(14) - 2 : below(10);
        return alike("trial " + p + " " + q + " " + r + " " + h + " " + full, x.trial(p, q, r, h, full), m.trial(p, q, r, h, full));
      }
      case 36: return alike("untell " + n, x.untell(n), m.untell(n));
      case 37: {
        int by = once(5) ? below(1100) - 50 : below(3);
        return alike("later " + by, x.later(by), m.later(by));
      }
      case 38: case 39: case 40: {
        int at = m.about(11) + 1 - below(6), h = once(9) ? below(110) - 5 : 1 + below(30);
        return alike("fit " + at, x.fit(at), m.fit(at)) && alike("sure " + b + " " + at, x.sure(b, at), m.sure(b, at))
            && alike("ask " + h + " 0 " + at, x.ask(h, 0, at), m.ask(h, 0, at))
            && alike("ask " + h + " " + b + " " + at, x.ask(h, b, at), m.ask(h, b, at));
      }
      case 41: return alike("image " + b, x.image(b), m.image(b));
      case 42: return alike("back " + b, x.back(b), m.back(b)) && all();
      default: return alike("end " + n, x.end(n), m.end(n)) && alike("fault " + b, x.fault(b), m.fault(b));
    }
  }

  private boolean lies() {
    boolean ok = alike("about 14", x.about(14), m.about(14));
    for (int i = -1; i < 6 && ok; i++) ok = alike("lies " + i, x.lies(i), m.lies(i));
    return ok;
  }

  private static final String[] FOODS = {"hay", "fish", "f", "oats"};
  private static final String[] MAPS = {"fen", "coast", "m", "hay", "longname"};
  private static final String[] PLACES = {"p", "q", "town", "isle", "marsh", "r", "s", "fen", "t", "u"};

  private String text() {
    StringBuilder s = new StringBuilder();
    int foods = below(4), maps = below(20) == 0 ? 0 : 1 + below(4), places = maps == 0 ? 0 : below(9);
    for (int i = 0; i < foods; i++) s.append("food ").append(FOODS[i]).append(' ').append(below(once(3) ? 100 : 13)).append(";");
    for (int i = 0; i < maps; i++) {
      s.append("map ").append(MAPS[i]).append(" scale ").append(1 + below(9)).append(" hunger ");
      if (once(3)) s.append(below(30));
      else if (once(3)) s.append("cold*").append(1 + below(9)).append("+").append(below(6));
      else e(s, 0, false);
      if (once(3)) s.append(" in ").append(below(4));
      if (once(8)) s.append(" folded");
      s.append(";\n");
    }
    for (int i = 0; i < places; i++) {
      s.append("place ").append(PLACES[i]).append(" size ").append(1 + below(60)).append(" worth ").append(below(10)).append(" on");
      int bits = 1 + below((1 << maps) - 1);
      for (int j = 0; j < maps; j++) if ((bits >> j & 1) != 0) s.append(' ').append(MAPS[j]);
      s.append(";");
    }
    for (int i = 0; i < maps; i++) {
      for (int j = 0; j < foods; j++) {
        if (once(2)) s.append("likes ").append(MAPS[i]).append(' ').append(FOODS[j]).append(' ').append(below(10)).append(";");
      }
      for (int j = 0; j < i; j++) {
        if (once(2)) s.append("border ").append(MAPS[i]).append(' ').append(MAPS[j]).append(";");
      }
    }
    if (once(2)) {
      s.append("taste ");
      e(s, 0, true);
      s.append(';');
    }
    if (once(3)) s.append("winter;");
    if (once(2)) s.append("draw ").append(below(1000)).append(";");
    return s.length() > 1600 ? "" : s.toString();
  }

  private void e(StringBuilder s, int depth, boolean isTaste) {
    String[] joints = {" or ", " and ", " < ", " > ", " = ", "+", "-", "-", "+", " * ", "/", "%"};
    int parts = 1 + below(depth == 0 ? 4 : 3);
    boolean related = false;
    for (int i = 0; i < parts; i++) {
      boolean first = i == 0;
      if (i > 0) {
        int j = below(joints.length);
        if (j >= 2 && j <= 4 && related) j = 5;
        if (j < 2) related = false;
        if (j >= 2 && j <= 4) related = true;
        s.append(joints[j]);
        first = j < 2;
      }
      if (first && once(6)) s.append(once(4) ? "not not " : "not ");
      unit(s, depth, isTaste);
    }
  }

  private void unit(StringBuilder s, int depth, boolean isTaste) {
    String[] words = {"scale", "year", "eaten", "cold", "size", "worth", "holes"};
    if (depth < 7 && once(5)) {
      s.append('(');
      e(s, depth + 1, isTaste);
      s.append(')');
    } else if (once(2)) {
      s.append(once(20) ? below(10000) : below(20));
    } else {
      s.append(words[isTaste || once(5) ? below(7) : below(4)]);
    }
  }

  /** The text with something taken out, put in, doubled or cut off. */
  private String mar(String text) {
    StringBuilder s = new StringBuilder(text);
    String[] pieces = {" ", ";", "(", ")", "<", "not ", "7", "in ", "12345", "folded", "A", "\t", "abcdefghi", "+", " fen ", "hay", "x",
        "winter;", "draw 7;", "draw 1000;", "food z 100;", "taste size;", "map z scale 0", "((((((((", "not not not not not not not not ",
        "1+1+1+1+1+1+1+1+1+1+1+1+1+1+1+1+1+1+1+1+1+1+1+1+1+1+1+1+1+1+1", "\n", "\u00e9", "border ", "likes ", "or ", "and ", "0"};
    for (int times = 1 + below(3); times > 0; times--) {
      int at = below(s.length() + 1);
      switch (below(5)) {
        case 0: if (at < s.length()) s.deleteCharAt(at); break;
        case 1: s.insert(at, pieces[below(pieces.length)]); break;
        case 2: s.setLength(once(3) ? at : s.length()); break;
        case 3: {
          int semicolon = s.indexOf(";", at);
          s.insert(semicolon < 0 ? 0 : semicolon + 1, pieces[below(pieces.length)]);
          break;
        }
        default: {
          int from = s.lastIndexOf(";", at) + 1, to = s.indexOf(";", from);
          if (to > 0) s.append(s.substring(from, to + 1));
        }
      }
    }
    return s.length() > 1600 ? s.substring(0, 1600) : s.toString();
  }
}
