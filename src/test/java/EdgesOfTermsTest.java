/** The edges that the document names under "Terms", a test for each sentence; each test begins with the words that it is by. */
public final class EdgesOfTermsTest {
  private static final String AB = "map a scale 1 hunger 1;map b scale 2 hunger 2;";
  private static final String ABCD = "map a scale 1 hunger 1;map b scale 1 hunger 1;map c scale 1 hunger 1;map d scale 1 hunger 1;";
  private static final String XYZ = "food x 1;food y 1;food z 1;";
  private static final String HEAD = "map a scale 1 hunger ";

  public static void main(String[] args) {
    longestText();
    emptyText();
    longestWord();
    longestNumber();
    blanks();
    longTokens();
    letterBehindNumber();
    wordsOfTheirOwn();
    foods();
    maps();
    places();
    likes();
    borders();
    numbering();
    onceEach();
    unitsInAll();
    unitsInOne();
    within();
    firstFault();
    leastFault();
    faultAtEnd();
    faultTwo();
    faultThree();
    faultFour();
    faultFive();
    foldedHunger();
    formulaRange();
    borderRange();
    otherVariables();
    wrapping();
    byZero();
    truths();
    untoldTaste();
    lessMoreOrEnough();
    greatestTaste();
    wholeSize();
    leastSize();
    sixtyAtMost();
    emptyTroughs();
    seeds();
    fortyActs();
    redoTillAct();
    Texts.finish("EdgesOfTermsTest");
  }

  private static String many(String s, int n) { return s.repeat(n); }

  private static void longestText() {
    Texts.by("a text of at most 1,600 bytes");
    HungryMaps x = Texts.house(many(" ", 1593) + "winter;");
    Texts.due("the last line is read", x.about(5), 1);
    Texts.fault(many(" ", 1594) + "winter", 2, 1600);
    Texts.fault(many("winter", 266) + "abcd", 2, 0);
    Texts.fault(many(";", 1600), 2, 0);
    Texts.fault("winter" + many("(", 1594), 2, 6);
    Texts.fault(many(" ", 1599) + "#", 1, 1599);
  }

  private static void emptyText() {
    Texts.by("house = {line}");
    Texts.fault("", 0, -1);
    Texts.fault(" ", 0, -1);
    Texts.fault("\n", 0, -1);
    Texts.due("no maps", new HungryMaps().house(), 0);
  }

  private static void longestWord() {
    Texts.by("words (a .. z, 8 at most)");
    Texts.fault("food a 1;", 0, -1);
    Texts.fault("food azazazaz 1;", 0, -1);
    Texts.fault("food azazazaza 1;", 2, 13);
    Texts.fault("food `a 1;", 1, 5);
    Texts.fault("food a{ 1;", 1, 6);
    Texts.fault("food aB 1;", 1, 6);
    Texts.fault("food a_b 1;", 1, 6);
    Texts.fault("food abcdefgh 1;food abcdefgi 1;food bcdefghi 1;", 0, -1);
    Texts.fault("food abcdefgh 1;food abcdefgh 1;", 3, 21);
    // A word, and what is eight letters long and begins with it, are two.
    Texts.fault("food inininin 1;food folde 1;food foldedd 1;", 0, -1);
  }

  private static void longestNumber() {
    Texts.by("N (1 to 4 digits)");
    Texts.due("one digit", Texts.house(HEAD + "7;").map(0, 1), 7);
    Texts.due("four digits", Texts.house(HEAD + "9999 - 9989;").map(0, 1), 10);
    Texts.due("noughts ahead", Texts.house(HEAD + "0012;").map(0, 1), 12);
    Texts.fault("food x 0099;", 0, -1);
    Texts.fault(HEAD + "12345;", 2, 25);
    Texts.fault("food x 00001;", 2, 11);
    Texts.fault("food x /;", 2, 7);
    Texts.fault("food x :;", 1, 7);
  }

  private static void blanks() {
    Texts.by("blanks (32, 10) part them or not");
    Texts.fault("food x 1;food y 1;", 0, -1);
    Texts.fault("\n food \n x\n1 ; \nfood\ny1;\n", 0, -1);
    Texts.fault("food x1;food y2;", 0, -1);
    for (char c : new char[] {0, 1, 8, 9, 11, 12, 13, 31, 33, 127, 128, 160, 255}) {
      Texts.fault("food x" + c + "1;", 1, 6);
      Texts.fault(c + "food x 1;", 1, 0);
    }
  }

  private static void longTokens() {
    Texts.by("each is as long as can be");
    Texts.fault("foodx 1;", 2, 0);
    Texts.fault("food foodx 1;", 0, -1);
    Texts.fault(HEAD + "1 infolded;", 2, 23);
    Texts.fault(HEAD + "notyear;", 2, 21);
    Texts.due("12 is no 1 and 2", Texts.house(HEAD + "12;").map(0, 1), 12);
    // What stands behind the end of the TAPE is no part of the last token.
    HungryMaps x = new HungryMaps();
    Texts.feed(x, "food x 999;");
    Texts.due("end", x.end(9), 9);
    Texts.due("house", x.house(), -1);
    Texts.due("99 can be", x.fault(0), 2);
    Texts.due("but ends too soon", x.fault(1), 9);
    HungryMaps y = new HungryMaps();
    Texts.feed(y, "winterly;");
    Texts.due("end", y.end(6), 6);
    Texts.due("feed", y.feed(0x3b202020, 0x20202020, 0x20202020, 0x20202020, 0x20202020), 26);
    Texts.due("winter;", y.house(), 0);
    Texts.due("winter", y.about(5), 1);
  }

  private static void letterBehindNumber() {
    Texts.by("no letter directly behind an N");
    Texts.fault(HEAD + "1in 2;", 1, 22);
    Texts.fault(HEAD + "1 in 2folded;", 1, 27);
    Texts.fault(HEAD + "1 in 2 folded;", 0, -1);
    Texts.fault(HEAD + "1\nin 2\nfolded;", 0, -1);
    Texts.fault(HEAD + "(1)in 2;", 0, -1);
    Texts.fault("food x 12;food y 1a", 1, 18);
    Texts.fault(HEAD + "1234a;", 1, 25);
    Texts.fault("food x1food", 1, 7);
  }

  private static void wordsOfTheirOwn() {
    Texts.by("Words that stand for themselves here are no NAMES");
    String[] words = {"food", "map", "scale", "hunger", "in", "folded", "place", "size", "worth", "on", "likes", "border", "taste",
        "winter", "draw", "or", "and", "not", "year", "eaten", "cold", "holes"};
    for (String w : words) {
      Texts.fault("food " + w + " 1;", 2, 5);
      Texts.fault("map " + w + " scale 1 hunger 1;", 2, 4);
      Texts.fault(AB + "place " + w + " size 1 worth 1 on a;", 2, 46 + 6);
      Texts.fault(AB + "place p size 1 worth 1 on " + w + ";", 2, 46 + 26);
      Texts.fault(AB + "place p size 1 worth 1 on a " + w + ";", 2, 46 + 28);
      Texts.fault(AB + "likes " + w + " x 1;", 2, 46 + 6);
      Texts.fault(AB + "likes a " + w + " 1;", 2, 46 + 8);
      Texts.fault(AB + "border " + w + " a;", 2, 46 + 7);
      Texts.fault(AB + "border a " + w + ";", 2, 46 + 9);
      Texts.fault("food " + w + "x 1;", 0, -1);
    }
  }

  private static void foods() {
    Texts.by("At most 3 FOODS (0 .. 99 in store)");
    HungryMaps x = Texts.house("food x 0;food y 99;food z 50;");
    Texts.due("three", x.about(1), 3);
    Texts.due("0", x.store(0), 0);
    Texts.due("99", x.store(1), 99);
    Texts.due("the third", x.store(2), 50);
    Texts.fault("food x 100;", 4, 7);
    Texts.fault("food x 9999;", 4, 7);
    Texts.fault(XYZ + "food", 2, 27);
    Texts.fault(XYZ + "food x 100;", 2, 27);
  }

  private static void maps() {
    Texts.by("4 MAPS (scale 1 .. 9; in a drawer 0 .. 3, 0 if not told)");
    HungryMaps x = Texts.house("map a scale 1 hunger 1;map b scale 9 hunger 1 in 0;map c scale 5 hunger 1 in 3;map d scale 2 hunger 1 in 1;");
    int[] scales = {1, 9, 5, 2}, drawers = {0, 0, 3, 1};
    for (int m = 0; m < 4; m++) {
      Texts.due("scale of " + m, x.map(m, 0), scales[m]);
      Texts.due("drawer of " + m, x.map(m, 5), drawers[m]);
    }
    Texts.fault("map a scale 0 hunger 1;", 4, 12);
    Texts.fault("map a scale 10 hunger 1;", 4, 12);
    Texts.fault(HEAD + "1 in 4;", 4, 26);
    Texts.fault(HEAD + "1 in 10 folded;", 4, 26);
    Texts.fault(ABCD + "map", 2, 92);
    Texts.fault(ABCD + "map a scale 0", 2, 92);
  }

  private static void places() {
    Texts.by("8 PLACES (size 1 .. 60, worth 0 .. 9; on MAPS told ahead, each once)");
    StringBuilder s = new StringBuilder(ABCD);
    for (char c = 'a'; c <= 'h'; c++) s.append("place ").append(c).append(" size 1 worth 1 on d;");
    Texts.due("eight", Texts.house(s.toString()).about(2), 8);
    Texts.fault(s + "place", 2, s.length());
    Texts.fault(s + "place a size 0", 2, s.length());
    HungryMaps x = Texts.house(ABCD + "place p size 1 worth 0 on d c b a;place q size 60 worth 9 on d;");
    int[][] want = {{1, 0, 0, 15}, {60, 9, 0, 8}};
    for (int p = 0; p < 2; p++) for (int what = 0; what < 4; what++) Texts.due("place " + p + " " + what, x.place(p, what), want[p][what]);
    for (int m = 0; m < 4; m++) Texts.due("places on " + m, x.map(m, 6), m == 3 ? 3 : 1);
    Texts.fault(AB + "place p size 0 worth 1 on a;", 4, 46 + 13);
    Texts.fault(AB + "place p size 61 worth 1 on a;", 4, 46 + 13);
    Texts.fault(AB + "place p size 1 worth 10 on a;", 4, 46 + 21);
    Texts.fault("place p size 1 worth 1 on a;" + AB, 5, 26);
    Texts.fault(AB + "place p size 1 worth 1 on a c;map c scale 1 hunger 1;", 5, 46 + 28);
    Texts.fault(AB + "place p size 1 worth 1 on b b;", 3, 46 + 28);
    Texts.fault(AB + "place p size 1 worth 1 on a;place q size 1 worth 1 on a;", 0, -1);
  }

  private static void likes() {
    Texts.by("12 likes (a MAP, a FOOD, both told ahead, each with each once; 0 .. 9: 1 if not told)");
    StringBuilder s = new StringBuilder(XYZ + ABCD);
    for (char m = 'd'; m >= 'a'; m--) {
      for (char f = 'z'; f >= 'x'; f--) s.append("likes ").append(m).append(' ').append(f).append(' ').append((m - 'a' + 3 * (f - 'x')) % 10).append(';');
    }
    HungryMaps x = Texts.house(s.toString());
    for (int m = 0; m < 4; m++) for (int f = 0; f < 3; f++) Texts.due("likes " + m + " " + f, x.likes(m, f), (m + 3 * f) % 10);
    Texts.fault(s + "likes", 2, s.length());
    Texts.fault(s + "likes a x 1;", 2, s.length());
    HungryMaps y = Texts.house(XYZ + ABCD + "likes b y 0;likes c z 9;");
    for (int m = 0; m < 4; m++) {
      for (int f = 0; f < 3; f++) Texts.due("likes " + m + " " + f, y.likes(m, f), m == 1 && f == 1 ? 0 : m == 2 && f == 2 ? 9 : 1);
    }
    Texts.fault(XYZ + AB + "likes a x 10;", 4, 73 + 10);
    Texts.fault(XYZ + "likes a x 1;" + AB, 5, 27 + 6);
    Texts.fault(AB + "likes a x 1;" + XYZ, 5, 46 + 8);
    Texts.fault(XYZ + AB + "likes a x 1;likes b x 1;likes a y 1;likes a x 1;", 3, 73 + 36 + 8);
  }

  private static void borders() {
    Texts.by("6 BORDERS (of two unlike MAPS told ahead, each two once in whichever order)");
    String s = ABCD + "border d c;border d b;border d a;border c b;border c a;border b a;";
    HungryMaps x = Texts.house(s);
    Texts.due("six", x.about(3), 6);
    for (int m = 0; m < 4; m++) Texts.due("borders of " + m, x.map(m, 7), 15 & ~(1 << m));
    Texts.fault(s + "border", 2, s.length());
    Texts.fault(s + "border a b;", 2, s.length());
    Texts.fault(ABCD + "border d d;", 3, 92 + 9);
    Texts.fault(ABCD + "border c d;border c d;", 3, 92 + 20);
    Texts.fault(ABCD + "border c d;border d c;", 3, 92 + 20);
    Texts.fault("border a b;" + AB, 5, 7);
    Texts.fault("map a scale 1 hunger 1;border a b;map b scale 1 hunger 1;", 5, 32);
  }

  private static void numbering() {
    Texts.by("numbered as told, each sort by itself");
    HungryMaps x = Texts.house("food z 3;map z scale 3 hunger 1;food a 4;place z size 5 worth 1 on z;map a scale 4 hunger 1;place a size 6 worth 2 on a;");
    Texts.due("food 0", x.store(0), 3);
    Texts.due("food 1", x.store(1), 4);
    Texts.due("map 0", x.map(0, 0), 3);
    Texts.due("map 1", x.map(1, 0), 4);
    Texts.due("place 0", x.place(0, 0), 5);
    Texts.due("place 1", x.place(1, 0), 6);
    Texts.due("place 0 is on map 0", x.place(0, 3), 1);
    Texts.due("place 1 is on map 1", x.place(1, 3), 2);
  }

  private static void onceEach() {
    Texts.by("taste, winter, draw (0 .. 999; 0) once each");
    HungryMaps x = Texts.house("draw 999;winter;taste 1;");
    Texts.due("seed", x.about(6), 999);
    Texts.due("winter", x.about(5), 1);
    HungryMaps y = Texts.house("draw 0;");
    Texts.due("seed 0", y.about(6), 0);
    Texts.due("no winter", y.about(5), 0);
    Texts.due("no draw", Texts.house("winter;").about(6), 0);
    Texts.fault("draw 1000;", 4, 5);
    Texts.fault("draw 1;draw 1000;", 2, 7);
    Texts.fault("winter;draw 1;winter", 2, 14);
    Texts.fault("taste 1;winter;taste", 2, 15);
  }

  private static String ones(int n) { return "1" + many("+1", n - 1); }

  private static void unitsInAll() {
    Texts.by("90 units in all");
    String sixty = HEAD + ones(30) + ";map b scale 1 hunger " + ones(30) + ";";
    HungryMaps x = Texts.house(sixty + "taste " + ones(30) + ";");
    Texts.due("90", x.about(13), 90);
    Texts.due("all of them count", x.map(1, 1), 30);
    String ninety = sixty + "taste " + ones(30) + ";map c scale 1 hunger ";
    Texts.fault(ninety + "1;", 2, ninety.length());
    Texts.fault(ninety + "(1);", 2, ninety.length());
    Texts.fault(ninety + "not cold;", 2, ninety.length() + 4);
    String more = sixty + "map c scale 1 hunger " + ones(29) + ";map d scale 1 hunger ";
    Texts.fault(more + "cold;", 0, -1);
    Texts.fault(more + "cold + year;", 2, more.length() + 7);
    Texts.fault(more + "(cold);", 2, more.length() + 1);
    // What a faulty text told counts for no later one.
    HungryMaps y = new HungryMaps();
    for (int i = 0; i < 3; i++) {
      y.end(0);
      Texts.feed(y, ninety);
      Texts.due("faulty", y.house(), -1);
    }
    Texts.due("units stay", y.about(13), 0);
    y.end(0);
    Texts.feed(y, sixty + "taste " + ones(30) + ";");
    Texts.due("90 again", y.house(), 2);
  }

  private static void unitsInOne() {
    Texts.by("30 in one e");
    Texts.due("30", Texts.house(HEAD + ones(30) + ";").map(0, 1), 30);
    Texts.fault(HEAD + ones(31) + ";", 2, 21 + 60);
    Texts.fault("taste " + ones(31) + ";", 2, 6 + 60);
    Texts.fault("taste " + ones(30) + ";" + HEAD + ones(30) + ";", 0, -1);
    Texts.fault(HEAD + "(" + ones(29) + ");", 0, -1);
    Texts.fault(HEAD + "(" + ones(30) + ");", 2, 22 + 58);
    Texts.fault(HEAD + ones(29) + "*(1);", 2, 21 + 57 + 2);
    Texts.fault(HEAD + ones(30) + "*(1);", 2, 21 + 59 + 1);
  }

  private static void within() {
    Texts.by("(a unit ( e ), or a one behind not, within 6 others at most)");
    Texts.due("seven, each in the next", Texts.house(HEAD + many("(", 7) + "5" + many(")", 7) + ";").map(0, 1), 5);
    Texts.fault(HEAD + many("(", 8) + "5" + many(")", 8) + ";", 2, 21 + 7);
    Texts.due("seven nots", Texts.house(HEAD + many("not ", 7) + "5;").map(0, 1), 0);
    Texts.fault(HEAD + many("not ", 8) + "5;", 2, 21 + 28);
    Texts.fault(HEAD + many("not(", 3) + "(5" + many(")", 4) + ";", 0, -1);
    Texts.fault(HEAD + many("not(", 3) + "not 5" + many(")", 3) + ";", 0, -1);
    Texts.fault(HEAD + many("not(", 3) + "not(5" + many(")", 4) + ";", 2, 21 + 15);
    Texts.fault(HEAD + many("(not ", 3) + "(not 5" + many(")", 4) + ";", 2, 21 + 16);
    // Those beside it are not around it.
    Texts.fault(HEAD + many("(", 7) + "5" + many(")", 7) + "+" + many("(", 7) + "5" + many(")", 7) + ";", 0, -1);
    Texts.fault(HEAD + many("not ", 7) + "5 and " + many("not ", 7) + "5 or " + many("not ", 7) + "5;", 0, -1);
    Texts.fault("taste " + many("(", 8) + "5" + many(")", 8) + ";", 2, 6 + 7);
  }

  private static void firstFault() {
    Texts.by("FAULTS, the first by its place (bytes from 0");
    Texts.fault("?", 1, 0);
    Texts.fault("food x 100;?", 4, 7);
    Texts.fault("food x ?;food x 100;", 1, 7);
    Texts.fault("food x 1;food x 100;", 3, 14);
    Texts.fault("food x 1;food y 100;food x 1;", 4, 16);
    Texts.fault(AB + "likes c x 10;", 5, 46 + 6);
    Texts.fault(AB + "border c a a", 5, 46 + 7);
    Texts.fault("1;", 2, 0);
    Texts.fault("food x 1;1;", 2, 9);
  }

  private static void leastFault() {
    Texts.by("at one place the least");
    // Where a name, a number or a sign is due and no token is, both 1 and 2 could be told.
    Texts.fault("food ?", 1, 5);
    Texts.fault("food x ?", 1, 7);
    Texts.fault("food x 1?", 1, 8);
    Texts.fault(HEAD + "?", 1, 21);
    Texts.fault(HEAD + "not ?", 1, 25);
    Texts.fault(HEAD + "(1?", 1, 23);
    Texts.fault(AB + "border ? a;", 1, 46 + 7);
    Texts.fault(AB + "place p size 1 worth 1 on a?", 1, 46 + 27);
    Texts.fault(HEAD + "1 in ?", 1, 26);
    Texts.fault("draw ?", 1, 5);
    Texts.fault("winter?", 1, 6);
  }

  private static void faultAtEnd() {
    Texts.by("the end: the text's length");
    Texts.fault("food", 2, 4);
    Texts.fault("food ", 2, 5);
    Texts.fault("food x", 2, 6);
    Texts.fault("food x 1", 2, 8);
    Texts.fault("food x 1 \n ", 2, 11);
    Texts.fault("winter", 2, 6);
    Texts.fault(HEAD, 2, 21);
    Texts.fault(HEAD + "(1", 2, 23);
    Texts.fault(HEAD + "1 +", 2, 24);
    Texts.fault(HEAD + "1 in", 2, 25);
  }

  private static void faultTwo() {
    Texts.by("2 one that can't stand there");
    Texts.fault("food x 1;;", 2, 9);
    Texts.fault("x 1;", 2, 0);
    Texts.fault("food x -1;", 2, 7);
    Texts.fault("food x year;", 2, 7);
    Texts.fault(HEAD + "1 folded folded;", 2, 30);
    Texts.fault(HEAD + "1 in 1 in 1;", 2, 28);
    Texts.fault(HEAD + "1 folded in 1;", 2, 30);
    Texts.fault(HEAD + "1 in folded;", 2, 26);
    Texts.fault(HEAD + "1 = 1 = 1;", 2, 27);
    Texts.fault(HEAD + "1 + not 1;", 2, 25);
    Texts.fault(HEAD + "1 > not 1;", 2, 25);
    Texts.fault(HEAD + "not 1 = 1 = 1;", 2, 31);
    Texts.fault(HEAD + "1 and or 1;", 2, 27);
    Texts.fault(HEAD + "1 x;", 2, 23);
    Texts.fault(HEAD + "x;", 2, 21);
    Texts.fault("taste 1 in 1;", 2, 8);
    Texts.fault("winter winter;", 2, 7);
    Texts.fault("draw year;", 2, 5);
    Texts.fault(AB + "border a b a;", 2, 46 + 11);
    Texts.fault(XYZ + AB + "likes a x y 1;", 2, 73 + 10);
    Texts.fault(AB + "place p size 1 worth 1 a;", 2, 46 + 23);
  }

  private static void faultThree() {
    Texts.by("3 a NAME told already (of its sort; a MAP of a PLACE a second time)");
    Texts.fault("food x 1;food y 1;food y 1;", 3, 23);
    Texts.fault(AB + "map b", 3, 46 + 4);
    Texts.fault(AB + "place p size 1 worth 1 on a;place p size 1", 3, 46 + 34);
    Texts.fault(AB + "place p size 1 worth 1 on a b a;", 3, 46 + 30);
    Texts.fault("food a 1;" + AB + "place a size 1 worth 1 on a;", 0, -1);
    // A name that only a faulty text told is not told.
    HungryMaps x = new HungryMaps();
    Texts.feed(x, "food x 1;?");
    x.house();
    x.end(9);
    Texts.due("x for the first time", x.house(), 0);
    Texts.due("one food", x.about(1), 1);
  }

  private static void faultFour() {
    Texts.by("4 a number that can't be");
    Texts.fault("food x 100;", 4, 7);
    Texts.fault("food x 0100;", 4, 7);
    Texts.fault("map a scale 00 hunger 1;", 4, 12);
    Texts.fault(HEAD + "1 in 9999;", 4, 26);
    Texts.fault("draw 9999;", 4, 5);
    Texts.fault("draw 0999;", 0, -1);
    Texts.fault(HEAD + "9999;", 0, -1);
    Texts.fault(HEAD + "0;", 0, -1);
  }

  private static void faultFive() {
    Texts.by("5 a NAME that nothing of the sort has");
    Texts.fault(XYZ + AB + "likes x x 1;", 5, 73 + 6);
    Texts.fault(XYZ + AB + "likes a a 1;", 5, 73 + 8);
    Texts.fault(XYZ + AB + "border a x;", 5, 73 + 9);
    Texts.fault(XYZ + AB + "place p size 1 worth 1 on x;", 5, 73 + 26);
    Texts.fault(AB + "place p size 1 worth 1 on a;place q size 1 worth 1 on p;", 5, 46 + 28 + 26);
    Texts.fault(AB + "place p size 1 worth 1 on aa;", 5, 46 + 26);
    // Names of an earlier house are not names of a later one.
    HungryMaps x = Texts.house(XYZ + ABCD);
    Texts.feed(x, AB + "border a c;");
    Texts.due("c is no more", x.house(), -1);
    Texts.due("fault", x.fault(0), 5);
    Texts.due("place", x.fault(1), 46 + 9);
  }

  private static void foldedHunger() {
    Texts.by("HUNGER of a MAP: 0, if it is FOLDED");
    HungryMaps x = Texts.house("map a scale 1 hunger 99 folded;map b scale 1 hunger 5;border a b;");
    Texts.due("folded", x.map(0, 1), 0);
    Texts.due("not beside it", x.map(1, 1), 5);
    x.fold(0);
    Texts.due("not folded", x.map(0, 1), 99);
    Texts.due("beside it", x.map(1, 1), 7);
  }

  private static void formulaRange() {
    Texts.by("0 at least, 99 at most");
    hunger("0 - 1", 0);
    hunger("0", 0);
    hunger("99", 99);
    hunger("100", 99);
    hunger("9999 * 9999", 99);
    hunger("0 - 9999 * 9999", 0);
  }

  private static void borderRange() {
    Texts.by("and 2 more for each BORDER to a MAP in the same drawer that is not FOLDED, 99 at most");
    String three = "map b scale 1 hunger 0;map c scale 1 hunger 0;map d scale 1 hunger 0;border a b;border a c;border d a;";
    int[] hungers = {0, 1, 92, 93, 94, 98, 99};
    for (int h : hungers) Texts.due("hunger " + h, Texts.house(HEAD + h + ";" + three).map(0, 1), Math.min(99, h + 6));
    Texts.due("0 at least comes first", Texts.house(HEAD + "0 - 50;" + three).map(0, 1), 6);
    Texts.due("99 at most comes first too", Texts.house(HEAD + "500;" + three).map(0, 1), 99);
    HungryMaps x = Texts.house(HEAD + "10;" + three);
    int[] fold = {1, 2, 3};
    for (int i = 0; i < 3; i++) {
      x.fold(fold[i]);
      Texts.due("folded " + i, x.map(0, 1), 14 - 2 * i);
    }
    x.fold(3);
    Texts.due("not folded any more", x.map(0, 1), 12);
    x.put(3, 1);
    Texts.due("elsewhere", x.map(0, 1), 10);
    Texts.due("and by itself", x.map(3, 1), 0);
    x.put(0, 1);
    Texts.due("in its drawer", x.map(0, 1), 12);
  }

  private static void otherVariables() {
    Texts.by("scale, year (0 at first), eaten (how much it ever bit off), cold (1 if it is winter, else 0; others 0)");
    HungryMaps x = Texts.house("map b scale 1 hunger 1;map a scale 9 hunger scale * 5 + year + eaten + cold * 5 + size + worth + holes;"
        + "place p size 60 worth 9 on b;place q size 3 worth 9 on a;draw 7;");
    Texts.due("45", x.map(1, 1), 45);
    x.year();
    // a ate the 3 that were there, and 30 is winter.
    Texts.due("a year, 3 eaten, winter", x.map(1, 1), 45 + 1 + 3 + 5);
    x.undo();
    Texts.due("as before", x.map(1, 1), 45);
  }

  private static void hunger(String formula, int want) { Texts.due("hunger " + formula, Texts.house(HEAD + formula + ";").map(0, 1), want); }

  private static void taste(String formula, int want) {
    Texts.due("taste " + formula, Texts.house(HEAD + "1;place p size 5 worth 1 on a;taste " + formula + ";").taste(0, 0), want);
  }

  private static void wrapping() {
    Texts.by("ints, wrapping");
    taste("256 * 256 * 256 * 128", Integer.MIN_VALUE);
    taste("256 * 256 * 256 * 128 - 1", Integer.MAX_VALUE);
    taste("256 * 256 * 256 * 128 - 1 + 1", Integer.MIN_VALUE);
    taste("0 - 256 * 256 * 256 * 128", Integer.MIN_VALUE);
    taste("256 * 256 * 256 * 128 * 2", 0);
    taste("256 * 256 * 256 * 128 * (0 - 1)", Integer.MIN_VALUE);
    taste("256 * 256 * 256 * 128 / (0 - 1)", Integer.MIN_VALUE);
    taste("256 * 256 * 256 * 128 % (0 - 1)", 0);
    taste("9999 * 9999 * 9999", -1027349969);
    taste("256 * 256 * 256 * 128 < 0", 1);
    taste("256 * 256 * 256 * 128 - 1 > 256 * 256 * 256 * 128", 1);
  }

  private static void byZero() {
    Texts.by("/ cut, % its rest, both by 0: 0");
    taste("7 / 2", 3);
    taste("(0 - 7) / 2", -3);
    taste("7 / (0 - 2)", -3);
    taste("(0 - 7) / (0 - 2)", 3);
    taste("7 % 4", 3);
    taste("(0 - 7) % 4", -3);
    taste("7 % (0 - 4)", 3);
    taste("(0 - 7) % (0 - 4)", -3);
    taste("1 / 2", 0);
    taste("(0 - 1) / 2", 0);
    taste("7 / 0", 0);
    taste("7 % 0", 0);
    taste("0 / 0", 0);
    taste("0 % 0", 0);
    taste("(0 - 7) / (3 - 3) + 2", 2);
    taste("7 % year + 2", 2);
  }

  private static void truths() {
    Texts.by("relations, and, or, not are 1 or 0, of what is not 0");
    String[] ones = {"2 < 3", "3 > 2", "3 = 3", "(0 - 1) < 0", "0 > (0 - 1)", "1 and 1", "7 and (0 - 7)", "(0 - 1) and 1", "1 and (0 - 1)",
        "0 or 1", "1 or 0", "1 or 1", "(0 - 1) or 0", "0 or (0 - 1)", "not 0", "not not 1", "not not (0 - 5)", "not not not 0"};
    String[] noughts = {"3 < 3", "4 < 3", "3 > 3", "2 > 3", "3 = 2", "3 = (0 - 3)", "1 and 0", "0 and 1", "0 and 0", "(0 - 1) and 0", "0 or 0",
        "not 1", "not 7", "not (0 - 1)", "not not 0"};
    for (String s : ones) taste("40 + (" + s + ")", 41);
    for (String s : noughts) taste("40 + (" + s + ")", 40);
    taste("5", 5);
    taste("0 - 5", -5);
  }

  private static void untoldTaste() {
    Texts.by("TASTE of a PLACE for a MAP: what comes of taste (size, if it is not told)");
    Texts.due("size", Texts.house(HEAD + "1;place p size 5 worth 9 on a;").taste(0, 0), 5);
    HungryMaps x = Texts.house("map a scale 3 hunger 4;map b scale 7 hunger 0;place p size 1 worth 0 on b;place q size 9 worth 2 on a;"
        + "taste size + 100 * worth + 1000 * holes;");
    Texts.due("q", x.taste(1, 0), 209);
    x.year();
    Texts.due("q, bitten once by 4", x.taste(1, 0), 1205);
    Texts.due("q for b", x.taste(1, 1), 1205);
    Texts.due("p", x.taste(0, 1), 1);
  }

  private static void lessMoreOrEnough() {
    Texts.by("with less GIVEN than HUNGER it BITES for the rest; with more");
    for (int n = 4; n <= 6; n++) {
      HungryMaps x = Texts.house("food f 9;" + HEAD + "5;place p size 20 worth 1 on a;");
      x.give(0, 0, n);
      Texts.due("given " + n, x.map(0, 2), n);
      Texts.due("smaller", x.year(), n < 5 ? 1 : 0);
      Texts.due("size", x.place(0, 0), 15 + n);
      Texts.due("holes", x.place(0, 2), n < 5 ? 1 : 0);
      Texts.due("eaten", x.map(0, 3), Math.max(0, 5 - n));
    }
  }

  private static void due(HungryMaps x, String what, int... sizes) {
    for (int p = 0; p < sizes.length; p++) Texts.due(what + ": size of " + p, x.place(p, 0), sizes[p]);
  }

  private static void greatestTaste() {
    Texts.by("the PLACE on it that is there (size above 0) of the greatest TASTE (of like ones the first)");
    String places = "place p size 3 worth 1 on a;place q size 3 worth 2 on a;place r size 3 worth 2 on a;place s size 9 worth 9 on b;";
    HungryMaps x = Texts.house("map a scale 1 hunger 2;map b scale 1 hunger 0;" + places + "taste worth;");
    x.year();
    due(x, "the first of like ones", 3, 1, 3, 9);
    x.year();
    due(x, "what is gone is bitten no more", 3, 0, 2, 9);
    HungryMaps y = Texts.house(HEAD + "1;place p size 3 worth 1 on a;place q size 3 worth 2 on a;taste 0 - 5 - worth;");
    y.year();
    due(y, "all below 0", 2, 3);
    HungryMaps z = Texts.house(HEAD + "1;place p size 3 worth 1 on a;place q size 3 worth 2 on a;taste 256 * 256 * 256 * 128 - (worth = 2);");
    z.year();
    due(z, "the least int and the greatest", 3, 2);
  }

  private static void wholeSize() {
    Texts.by("as much as is left to be bitten, its whole size at most");
    StringBuilder s = new StringBuilder(HEAD + "96;");
    for (char c = 'a'; c <= 'h'; c++) s.append("place ").append(c).append(" size 12 worth 1 on a;");
    HungryMaps x = Texts.house(s.toString());
    Texts.due("all eight in a year", x.year(), 8);
    Texts.due("all are gone", x.gone(), 255);
    Texts.due("96", x.map(0, 3), 96);
    for (int p = 0; p < 8; p++) Texts.due("a hole each", x.place(p, 2), 1);
    Texts.due("nothing is there to be bitten", x.year(), 0);
    Texts.due("96 still", x.map(0, 3), 96);
    HungryMaps y = Texts.house(s.toString().replace("96", "95"));
    y.year();
    due(y, "the last keeps 1", 0, 0, 0, 0, 0, 0, 0, 1);
    HungryMaps z = Texts.house(s.toString().replace("96", "99"));
    z.year();
    Texts.due("no more than is there", z.map(0, 3), 96);
  }

  private static void leastSize() {
    Texts.by("of PLACES on it, gone ones too, the one of least size (of like ones the first) is bigger by what is over");
    HungryMaps x = Texts.house("food f 99;" + HEAD + "6;place p size 9 worth 1 on a;place q size 6 worth 1 on a;"
        + "place r size 6 worth 1 on a;taste size = 6;");
    x.give(0, 0, 7);
    x.year();
    due(x, "the first of the least", 9, 7, 6);
    x.year();
    due(x, "r, the tastiest, is eaten", 9, 7, 0);
    x.give(0, 0, 8);
    x.year();
    due(x, "gone ones too", 9, 7, 2);
    HungryMaps y = Texts.house("food f 9;map a scale 1 hunger 0;map b scale 1 hunger 0;place p size 1 worth 1 on a;place q size 5 worth 1 on b;");
    y.give(1, 0, 2);
    y.year();
    due(y, "only what is on it", 1, 7);
    HungryMaps z = Texts.house("food f 9;map a scale 1 hunger 0;");
    z.give(0, 0, 9);
    Texts.due("no place on it", z.year(), 0);
  }

  private static void sixtyAtMost() {
    Texts.by("(60 at most)");
    for (int size = 50; size <= 60; size += 5) {
      HungryMaps x = Texts.house("food f 99;" + HEAD + "0;place p size " + size + " worth 1 on a;");
      for (int n = 4; n <= 6; n++) {
        x.give(0, 0, n);
        x.year();
        due(x, size + " and " + n, Math.min(60, size + n));
        x.undo();
        x.undo();
      }
      x.give(0, 0, 99);
      Texts.due("none smaller", x.year(), 0);
      due(x, size + " and 99", 60);
    }
  }

  private static void emptyTroughs() {
    Texts.by("TROUGHS are empty then");
    HungryMaps x = Texts.house("food x 99;food y 99;food z 99;" + ABCD);
    x.fold(2);
    for (int m = 0; m < 4; m++) for (int f = 0; f < 3; f++) x.give(m, f, 1 + m + f);
    for (int m = 0; m < 4; m++) for (int f = 0; f < 3; f++) Texts.due("filled " + m + " " + f, x.trough(m, f), 1 + m + f);
    Texts.due("no place gets smaller by that", x.bitten(), 0);
    Texts.due("nor got", x.year(), 0);
    for (int m = 0; m < 4; m++) for (int f = 0; f < 3; f++) Texts.due("empty " + m + " " + f, x.trough(m, f), 0);
    Texts.due("the store gets nothing back", x.store(2), 99 - 3 - 4 - 5 - 6);
    x.undo();
    Texts.due("full again", x.trough(3, 2), 6);
  }

  private static void seeds() {
    Texts.by("the SEED becomes its 137-fold and 71 more, modulo 1,000, it is winter if a tenth of it, cut, is odd");
    // 999 * 137 + 71 = 136934; 0 -> 71; 7 -> 1030; 57 -> 7880; 23 -> 3222; 3 -> 482; 937 -> 128440.
    int[][] all = {{999, 934, 1}, {0, 71, 1}, {7, 30, 1}, {57, 880, 0}, {23, 222, 0}, {3, 482, 0}, {937, 440, 0}};
    for (int[] a : all) {
      HungryMaps x = Texts.house("draw " + a[0] + ";");
      Texts.due("not winter at first", x.about(5), 0);
      x.year();
      Texts.due("seed behind " + a[0], x.about(6), a[1]);
      Texts.due("winter behind " + a[0], x.about(5), a[2]);
      Texts.due("year", x.about(4), 1);
    }
    // Whether the seed itself is odd tells nothing.
    HungryMaps y = Texts.house("draw 19;winter;");
    Texts.due("as told", y.about(5), 1);
    y.year();
    Texts.due("674: 67 is odd", y.about(5), 1);
    HungryMaps z = Texts.house("draw 27;winter;");
    z.year();
    Texts.due("770: 77 is odd", z.about(5), 1);
    z.year();
    Texts.due("105561: 56 is even", z.about(5), 0);
  }

  private static void fortyActs() {
    Texts.by("40 at most are kept, the oldest go");
    for (int acts = 39; acts <= 42; acts++) {
      HungryMaps x = new HungryMaps();
      for (int i = 0; i < acts; i++) x.year();
      int kept = Math.min(40, acts);
      Texts.due("kept of " + acts, x.about(8), kept);
      for (int i = 1; i <= kept; i++) {
        Texts.due("undo", x.undo(), true);
        Texts.due("year", x.about(4), acts - i);
        Texts.due("can be undone", x.about(8), kept - i);
        Texts.due("can be redone", x.about(9), i);
      }
      Texts.due("no more", x.undo(), false);
      Texts.due("as it was", x.about(4), acts - kept);
      for (int i = 1; i <= kept; i++) {
        Texts.due("redo", x.redo(), true);
        Texts.due("year", x.about(4), acts - kept + i);
      }
      Texts.due("no more to redo", x.redo(), false);
      x.year();
      Texts.due("and one more", x.about(8), Math.min(40, kept + 1));
    }
  }

  private static void redoTillAct() {
    Texts.by("REDO does that again which was taken back last (till another ACT)");
    HungryMaps x = Texts.house("food f 9;" + HEAD + "1;place p size 9 worth 1 on a;");
    x.put(0, 1);
    x.put(0, 2);
    x.put(0, 3);
    x.undo();
    x.undo();
    // None of these is an ACT.
    x.give(0, 0, 10);
    x.fold(1);
    x.put(0, 4);
    x.image(0);
    x.will(0, 5);
    x.keep(0, 1);
    x.trial(1, 0, 0, 1, true);
    x.later(1);
    x.end(0);
    x.back(1);
    Texts.due("two to redo", x.about(9), 2);
    Texts.due("redo", x.redo(), true);
    Texts.due("drawer 2", x.map(0, 5), 2);
    Texts.due("one to redo", x.about(9), 1);
    x.fold(0);
    Texts.due("an act", x.about(9), 0);
    Texts.due("no redo", x.redo(), false);
    Texts.due("drawer 2 still", x.map(0, 5), 2);
    Texts.due("three to undo", x.about(8), 3);
    x.undo();
    x.year();
    Texts.due("a year is an act", x.redo(), false);
    x.undo();
    x.give(0, 0, 1);
    Texts.due("so is giving", x.redo(), false);
    x.undo();
    x.put(0, 2);
    Texts.due("so is putting, if where it was", x.redo(), false);
  }
}
