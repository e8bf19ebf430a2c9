/** Promises 1 to 5: a new object, the tape, the text of a house and its faults. */
public final class TextTest {
  private static final String MAPS = "map a scale 1 hunger 1;map b scale 2 hunger 2;";

  public static void main(String[] args) {
    newObject();
    feeding();
    fullTape();
    ending();
    housing();
    housingAgain();
    faultAnswers();
    tokens();
    lines();
    limits();
    twice();
    numbers();
    unknown();
    formulas();
    nesting();
    units();
    Texts.finish("TextTest");
  }

  private static void newObject() {
    HungryMaps x = new HungryMaps();
    for (int what = 0; what < 15; what++) Texts.due("new about " + what, x.about(what), 0);
    Texts.due("new store", x.store(0), -1);
    Texts.due("new undo", x.undo(), false);
    Texts.due("new redo", x.redo(), false);
    Texts.due("new back", x.back(0), -1);
    Texts.due("new fault 0", x.fault(0), 0);
    Texts.due("new fault 1", x.fault(1), -1);
    Texts.due("new lies", x.lies(0), -1);
  }

  private static void fullTape() {
    StringBuilder s = new StringBuilder("taste 1;");
    while (s.length() < 1600) s.append(';');
    Texts.fault(s.toString(), 2, 8);
    StringBuilder t = new StringBuilder("draw 1;");
    while (t.length() < 1593) t.append(' ');
    Texts.fault(t + "winter;", 0, -1);
    Texts.fault(t + "  winte", 2, 1595);
    Texts.fault(t + " winter", 2, 1600);
  }

  private static void feeding() {
    HungryMaps x = new HungryMaps();
    for (int i = 1; i <= 80; i++) Texts.due("feed", x.feed(0x20202020, 0x20202020, 0x20202020, 0x20202020, 0x20202020), 20 * i);
    Texts.due("a feed too many", x.feed(0, 0, 0, 0, 0), -1);
    Texts.due("nothing came", x.about(12), 1600);
    Texts.due("end 1581", x.end(1581), 1581);
    Texts.due("19 are free", x.feed(0, 0, 0, 0, 0), -1);
    Texts.due("end 1580", x.end(1580), 1580);
    Texts.due("20 are free", x.feed(0x41202020, 0x20202020, 0x20202020, 0x20202020, 0x20202042), 1600);
    Texts.due("no such token", x.house(), -1);
    Texts.due("the highest byte first", x.fault(1), 1580);
    x.end(1580);
    x.feed(0x20202020, 0x20202020, 0x20202020, 0x20202020, 0xff);
    x.house();
    Texts.due("the lowest byte last", x.fault(1), 1596);
    x.end(1580);
    x.feed(0x20202020, 0x20202020, 0x20202020, 0x20202020, 0x202020ff);
    x.house();
    Texts.due("the lowest byte is the 20th", x.fault(1), 1599);
  }

  private static void ending() {
    HungryMaps x = new HungryMaps();
    Texts.due("end 0 of none", x.end(0), 0);
    Texts.due("end 1 of none", x.end(1), -1);
    Texts.feed(x, "winter;");
    Texts.due("end below 0", x.end(-1), -1);
    Texts.due("end beyond", x.end(8), -1);
    Texts.due("as it was", x.about(12), 7);
    Texts.due("end where it ends", x.end(7), 7);
    Texts.due("end 6", x.end(6), 6);
    Texts.due("about 12", x.about(12), 6);
    Texts.due("a line cut off", x.house(), -1);
    Texts.due("fault at the end", x.fault(1), 6);
  }

  private static void housing() {
    HungryMaps x = Texts.house(MAPS + "food f 7;place p size 9 worth 1 on a;winter;draw 12;");
    Texts.due("tape is empty", x.about(12), 0);
    Texts.due("winter as told", x.about(5), 1);
    Texts.due("seed as told", x.about(6), 12);
    x.later(5);
    x.trial(1, 0, 0, 1, true);
    x.give(0, 0, 2);
    x.give(1, 0, 1);
    x.undo();
    x.image(1);
    x.drawers(2);
    x.year();
    x.undo();
    Texts.feed(x, "winter; map");
    Texts.due("faulty house", x.house(), -1);
    Texts.due("maps stay", x.about(0), 2);
    Texts.due("acts stay", x.about(8), 1);
    Texts.due("undone acts stay", x.about(9), 1);
    Texts.due("trials stay", x.about(10), 1);
    Texts.due("what lies there stays", x.about(14), 2);
    Texts.due("the tape stays", x.about(12), 11);
    Texts.due("trough stays", x.trough(0, 0), 2);
    Texts.due("box stays", x.back(1), 0);
    Texts.due("end 7", x.end(7), 7);
    x.fold(0);
    x.year();
    x.drawers(2);
    x.image(2);
    Texts.due("a house of a line", x.house(), 0);
    Texts.due("no maps", x.map(0, 0), -1);
    Texts.due("no foods", x.about(1), 0);
    Texts.due("year 0", x.about(4), 0);
    Texts.due("winter", x.about(5), 1);
    Texts.due("seed 0", x.about(6), 0);
    Texts.due("none folded", x.about(7), 0);
    Texts.due("no acts", x.undo(), false);
    Texts.due("no acts to redo", x.redo(), false);
    Texts.due("no trials", x.about(10), 0);
    Texts.due("nothing lies", x.about(14), 0);
    Texts.due("box 1 is empty", x.back(1), -1);
    Texts.due("box 2 is empty", x.back(2), -1);
    Texts.due("the time stays", x.about(11), 5);
    Texts.due("units", x.about(13), 0);
    Texts.due("an empty tape is a house", x.house(), 0);
    Texts.due("not in winter", x.about(5), 0);
  }

  /** Nothing of an earlier house, a faulty one or one before the last, stays in a later one. */
  private static void housingAgain() {
    String rich = "food f 9;food g 8;map a scale 3 hunger 9+year in 2 folded;map b scale 2 hunger 7 in 3;place p size 9 worth 9 on a b;"
        + "place q size 8 worth 8 on b;likes a f 5;likes b g 0;border a b;taste 0-size;winter;draw 9;";
    String plain = "food f 1;food g 1;map a scale 1 hunger 2;map b scale 1 hunger 2;place p size 3 worth 1 on a;place q size 4 worth 1 on b;";
    HungryMaps x = Texts.house(rich);
    for (int turn = 0; turn < 3; turn++) {
      Texts.feed(x, turn == 1 ? rich + "food f" : "winter");
      Texts.due("faulty", x.house(), -1);
      x.end(0);
      Texts.feed(x, plain);
      Texts.due("plain", x.house(), 2);
      int[][] maps = {{1, 2, 0, 0, 0, 0, 1, 0}, {1, 2, 0, 0, 0, 0, 2, 0}};
      for (int m = 0; m < 2; m++) for (int what = 0; what < 8; what++) Texts.due("map " + m + " " + what, x.map(m, what), maps[m][what]);
      int[] about = {2, 2, 2, 0, 0, 0, 0, 0, 0, 0, 0, 0, 0, 2, 0};
      for (int what = 0; what < 15; what++) Texts.due("about " + what, x.about(what), about[what]);
      Texts.due("maps of p", x.place(0, 3), 1);
      Texts.due("taste", x.taste(1, 1), 4);
      Texts.due("likes a f", x.likes(0, 0), 1);
      Texts.due("likes b g", x.likes(1, 1), 1);
      Texts.feed(x, rich);
      Texts.due("rich", x.house(), 2);
      Texts.due("likes a f", x.likes(0, 0), 5);
      Texts.due("taste", x.taste(1, 1), -8);
      Texts.due("units", x.about(13), 5);
      x.year();
    }
  }

  private static void faultAnswers() {
    HungryMaps x = new HungryMaps();
    Texts.feed(x, "food ?");
    x.house();
    Texts.due("fault 0", x.fault(0), 1);
    Texts.due("fault 1", x.fault(1), 5);
    Texts.due("fault 2", x.fault(2), -1);
    Texts.due("fault -1", x.fault(-1), -1);
    x.end(0);
    x.house();
    Texts.due("fault 0 of a good one", x.fault(0), 0);
    Texts.due("fault 1 of a good one", x.fault(1), -1);
  }

  private static void tokens() {
    Texts.fault("food f 1;", 0, -1);
    Texts.fault("food\nf\n1\n;\n", 0, -1);
    Texts.fault("food f1;", 0, -1);
    Texts.fault("food f0001;", 0, -1);
    Texts.fault("map a scale1hunger 1;", 1, 12);
    Texts.fault("map a scale1 hunger(1)in 2folded;", 1, 26);
    Texts.fault("map a scale1 hunger(1)in 2 folded;", 0, -1);
    Texts.fault("food\tf 1;", 1, 4);
    Texts.fault("Food f 1;", 1, 0);
    Texts.fault("food f 1;\r", 1, 9);
    Texts.fault("food f\u00e9 1;", 1, 6);
    Texts.fault("food f 1,", 1, 8);
    Texts.fault("food f 1\u0000", 1, 8);
    Texts.fault("food fooda 1;map fooda scale 1 hunger 1;", 0, -1);
    Texts.fault("food abcdefgh 1;", 0, -1);
    // Tokens are as long as can be: the ninth letter and the fifth digit begin others.
    Texts.fault("food abcdefghi 1;", 2, 13);
    Texts.fault("map a scale 1 hunger 12345;", 2, 25);
    Texts.fault("food f 00012;", 2, 11);
    Texts.fault("map abcdefgh scale 1 hunger 1;map i scale 1 hunger 1;place p size 1 worth 1 on abcdefghi;", 0, -1);
    Texts.fault("foodf 1;", 2, 0);
  }

  private static void lines() {
    Texts.fault("", 0, -1);
    Texts.fault("  \n ", 0, -1);
    Texts.fault(";", 2, 0);
    Texts.fault("folded;", 2, 0);
    Texts.fault("food f 1", 2, 8);
    Texts.fault("food f 1  ", 2, 10);
    Texts.fault("food", 2, 4);
    Texts.fault("food 1;", 2, 5);
    Texts.fault("food f;", 2, 6);
    Texts.fault("food f g;", 2, 7);
    Texts.fault("map a scale 1 hunger 1 folded in 1;", 2, 30);
    Texts.fault("map a scale 1 hunger 1 in 1 folded;", 0, -1);
    Texts.fault("map a scale 1 hunger 1 folded;", 0, -1);
    Texts.fault("map a hunger 1 scale 1;", 2, 6);
    Texts.fault("map a scale 1 hunger;", 2, 20);
    Texts.fault(MAPS + "place p size 1 worth 1 on;", 2, 46 + 25);
    Texts.fault(MAPS + "place p size 1 worth 1 on a 1;", 2, 46 + 28);
    Texts.fault(MAPS + "place p size 1 worth 1 on b a;", 0, -1);
    Texts.fault(MAPS + "place p worth 1 size 1 on a;", 2, 46 + 8);
    Texts.fault(MAPS + "border a;", 2, 46 + 8);
    Texts.fault(MAPS + "food f 1;likes a f;", 2, 46 + 18);
    Texts.fault("winter 1;", 2, 7);
    Texts.fault("draw;", 2, 4);
    Texts.fault("taste;", 2, 5);
    String[] words = {"food", "map", "scale", "hunger", "in", "folded", "place", "size", "worth", "on", "likes", "border", "taste",
        "winter", "draw", "or", "and", "not", "year", "eaten", "cold", "holes"};
    for (String w : words) {
      Texts.fault("food " + w + " 1;", 2, 5);
      Texts.fault("map " + w + " scale 1 hunger 1;", 2, 4);
    }
    for (String w : new String[] {"line", "both", "one", "sum", "term", "unit", "e", "house", "name", "n"}) {
      Texts.fault("food " + w + " 1;", 0, -1);
    }
  }

  private static void limits() {
    Texts.fault("food a 1;food b 1;food c 1;food d 1;", 2, 27);
    String maps = "map a scale 1 hunger 1;map b scale 1 hunger 1;map c scale 1 hunger 1;map d scale 1 hunger 1;";
    Texts.fault(maps + "map e", 2, 92);
    StringBuilder places = new StringBuilder(maps);
    for (char c = 'a'; c <= 'h'; c++) places.append("place ").append(c).append(" size 1 worth 1 on a;");
    Texts.fault(places.toString(), 0, -1);
    Texts.fault(places + "place", 2, places.length());
    Texts.due("on all maps", Texts.house(maps + "place p size 1 worth 1 on d b a c;").place(0, 3), 15);
    Texts.fault(maps + "place p size 1 worth 1 on d b a c a;", 3, 92 + 34);
    Texts.fault(maps + "place p size 1 worth 1 on d b a c e;", 5, 92 + 34);
    StringBuilder likes = new StringBuilder("food x 1;food y 1;food z 1;" + maps);
    for (char m = 'a'; m <= 'd'; m++) for (char f = 'x'; f <= 'z'; f++) likes.append("likes ").append(m).append(' ').append(f).append(" 2;");
    Texts.fault(likes.toString(), 0, -1);
    Texts.fault(likes + "likes a x 1;", 2, likes.length());
    String borders = maps + "border a b;border c a;border a d;border b c;border d b;border c d;";
    Texts.fault(borders, 0, -1);
    Texts.fault(borders + "border a b;", 2, borders.length());
    Texts.fault("taste 1;winter;taste 2;", 2, 15);
    Texts.fault("winter;winter;", 2, 7);
    Texts.fault("draw 0;draw 0;", 2, 7);
  }

  private static void twice() {
    Texts.fault("food f 1;food f 1;", 3, 14);
    Texts.fault("map a scale 1 hunger 1;map a", 3, 27);
    Texts.fault(MAPS + "place p size 1 worth 1 on a;place p", 3, 46 + 34);
    Texts.fault("food a 1;" + MAPS + "place a size 1 worth 1 on a;", 0, -1);
    Texts.fault(MAPS + "place p size 1 worth 1 on a a;", 3, 46 + 28);
    Texts.fault(MAPS + "place p size 1 worth 1 on a b a;", 3, 46 + 30);
    Texts.fault(MAPS + "food f 1;likes a f 1;likes b f 1;likes a f 2;", 3, 46 + 41);
    Texts.fault(MAPS + "border a a;", 3, 46 + 9);
    Texts.fault(MAPS + "border a b;border a b;", 3, 46 + 20);
    Texts.fault(MAPS + "border a b;border b a;", 3, 46 + 20);
  }

  private static void numbers() {
    Texts.fault("food f 0;", 0, -1);
    Texts.fault("food f 99;", 0, -1);
    Texts.fault("food f 100;", 4, 7);
    Texts.fault("map a scale 0 hunger 1;", 4, 12);
    Texts.fault("map a scale 9 hunger 9999;", 0, -1);
    Texts.fault("map a scale 10 hunger 1;", 4, 12);
    Texts.fault("map a scale 1 hunger 1 in 3;", 0, -1);
    Texts.fault("map a scale 1 hunger 1 in 0;", 0, -1);
    Texts.fault("map a scale 1 hunger 1 in 4;", 4, 26);
    Texts.fault(MAPS + "place p size 0 worth 1 on a;", 4, 46 + 13);
    Texts.fault(MAPS + "place p size 60 worth 0 on a;", 0, -1);
    Texts.fault(MAPS + "place p size 61 worth 0 on a;", 4, 46 + 13);
    Texts.fault(MAPS + "place p size 1 worth 9 on a;", 0, -1);
    Texts.fault(MAPS + "place p size 1 worth 10 on a;", 4, 46 + 21);
    Texts.fault(MAPS + "food f 1;likes a f 9;likes b f 0;", 0, -1);
    Texts.fault(MAPS + "food f 1;likes a f 10;", 4, 46 + 19);
    Texts.fault("draw 999;", 0, -1);
    Texts.fault("draw 1000;", 4, 5);
    Texts.fault("food f 100x", 4, 7);
  }

  private static void unknown() {
    Texts.fault(MAPS + "place p size 1 worth 1 on c;", 5, 46 + 26);
    Texts.fault(MAPS + "place p size 1 worth 1 on a c;", 5, 46 + 28);
    Texts.fault("food f 1;likes f f 1;", 5, 15);
    Texts.fault(MAPS + "food f 1;likes a a 1;", 5, 46 + 17);
    Texts.fault(MAPS + "likes a f 1;food f 1;", 5, 46 + 8);
    Texts.fault(MAPS + "border c a;", 5, 46 + 7);
    Texts.fault(MAPS + "border a c;", 5, 46 + 9);
    Texts.fault(MAPS + "border c c;", 5, 46 + 7);
  }

  private static void hunger(String formula, int want) {
    HungryMaps x = Texts.house("map a scale 5 hunger " + formula + ";");
    Texts.due("hunger " + formula, x.map(0, 1), want);
  }

  private static void formulas() {
    hunger("1 + 2 * 3", 7);
    hunger("(1 + 2) * 3", 9);
    hunger("20 - 3 - 4", 13);
    hunger("60 / 5 / 3", 4);
    hunger("17 % 5 * 2", 4);
    hunger("7 / 0 + 3", 3);
    hunger("7 % 0 + 3", 3);
    hunger("50 + (0 - 7) / 2", 47);
    hunger("50 + (0 - 7) % 4", 47);
    hunger("1 - 2", 0);
    hunger("99 + 1", 99);
    hunger("2 < 3", 1);
    hunger("3 < 3", 0);
    hunger("3 > 2", 1);
    hunger("3 > 3", 0);
    hunger("3 = 3", 1);
    hunger("3 = 4", 0);
    hunger("1 + 1 < 1 * 3", 1);
    hunger("7 and 2", 1);
    hunger("7 and 0", 0);
    hunger("0 or 9", 1);
    hunger("0 or 0", 0);
    hunger("7", 7);
    hunger("not 7", 0);
    hunger("not 0", 1);
    hunger("not not 7", 1);
    hunger("not 1 < 0", 1);
    hunger("not 0 + 5", 0);
    hunger("1 or 1 and 0", 1);
    hunger("(1 or 1) and 0", 0);
    hunger("not 0 and 0", 0);
    hunger("(not 0) + 4", 5);
    hunger("scale * scale", 25);
    hunger("4 + size + worth + holes + year + eaten + cold", 4);
    // 9999 * 9999 * 9999 is 999700029999, which is -1027349969 as an int.
    hunger("9999 * 9999 * 9999 < 0", 1);
    hunger("9999 * 9999 * 9999 + 1027 * 1000 * 1000 + 349 * 1000 + 969 + 5", 5);
    // 256 * 256 * 256 * 128 is the least int: by -1 it stays so, and leaves no rest.
    hunger("256 * 256 * 256 * 128 / (0 - 1) < 0", 1);
    hunger("256 * 256 * 256 * 128 % (0 - 1) + 3", 3);
    Texts.fault("map a scale 1 hunger 1 < 2 < 3;", 2, 27);
    Texts.fault("map a scale 1 hunger not 1 < 2 = 3;", 2, 31);
    Texts.fault("map a scale 1 hunger 1 + not 2;", 2, 25);
    Texts.fault("map a scale 1 hunger 1 < not 2;", 2, 25);
    Texts.fault("map a scale 1 hunger - 1;", 2, 21);
    Texts.fault("map a scale 1 hunger (1;", 2, 23);
    Texts.fault("map a scale 1 hunger ();", 2, 22);
    Texts.fault("map a scale 1 hunger 1);", 2, 22);
    Texts.fault("map a scale 1 hunger 1 2;", 2, 23);
    Texts.fault("map a scale 1 hunger a;", 2, 21);
    Texts.fault("map a scale 1 hunger 1 or;", 2, 25);
    Texts.fault("map a scale 1 hunger hunger;", 2, 21);
    Texts.fault("map a scale 1 hunger not;", 2, 24);
  }

  private static void nesting() {
    String head = "map a scale 1 hunger ";
    Texts.fault(head + "(((((((1)))))));", 0, -1);
    Texts.fault(head + "((((((((1))))))));", 2, 28);
    Texts.fault(head + "not not not not not not not 1;", 0, -1);
    Texts.fault(head + "not not not not not not not not 1;", 2, 49);
    Texts.fault(head + "not not not not not not not (1);", 2, 49);
    Texts.fault(head + "not not not not not not (1);", 0, -1);
    Texts.fault(head + "(((((((not 1)))))));", 2, 28);
    Texts.fault(head + "((((((not 1))))));", 0, -1);
    Texts.fault(head + "(((((((1))))))) and (((((((1)))))));", 0, -1);
  }

  private static String ones(int n) {
    StringBuilder s = new StringBuilder("1");
    for (int i = 1; i < n; i++) s.append("+1");
    return s.toString();
  }

  private static void units() {
    String head = "map a scale 1 hunger ";
    HungryMaps x = Texts.house(head + ones(30) + ";");
    Texts.due("30 units", x.about(13), 30);
    Texts.due("their sum", x.map(0, 1), 30);
    Texts.fault(head + ones(31) + ";", 2, 21 + 60);
    Texts.due("a unit of units", Texts.house(head + "(1+2)*3;").about(13), 4);
    Texts.fault(head + "(" + ones(29) + ");", 0, -1);
    Texts.fault(head + "(" + ones(30) + ");", 2, 22 + 58);
    Texts.fault(head + ones(30) + "+(1);", 2, 21 + 60);
    String three = head + ones(30) + ";map b scale 1 hunger " + ones(30) + ";map c scale 1 hunger " + ones(29) + ";";
    Texts.due("90 units", Texts.house(three + "taste 1;").about(13), 90);
    Texts.fault(three + "taste 1+1;", 2, three.length() + 8);
    Texts.fault(three + "map d scale 1 hunger (1);", 2, three.length() + 22);
  }
}
