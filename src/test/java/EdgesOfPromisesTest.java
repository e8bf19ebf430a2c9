/** The edges that promises 1 to 43 name, promise by promise; each test begins with the words that it is by. */
public final class EdgesOfPromisesTest {
  private static final int MOST = Integer.MAX_VALUE, LEAST = Integer.MIN_VALUE;
  /** As many of each sort as there can be; d is folded, and each map is in a drawer of its own. */
  private static final String FULL = "food x 99;food y 50;food z 0;map a scale 1 hunger 10;map b scale 4 hunger 20 in 1;map c scale 6 hunger 30 in 2;"
      + "map d scale 9 hunger 40 in 3 folded;place p size 10 worth 1 on a;place q size 60 worth 9 on a b c d;place r size 1 worth 0 on b;"
      + "place s size 20 worth 2 on b c;place t size 30 worth 3 on c;place u size 40 worth 4 on c d;place v size 50 worth 5 on d;"
      + "place w size 8 worth 7 on d a;likes a x 0;likes a y 1;likes a z 2;likes b x 3;likes b y 4;likes b z 5;likes c x 6;likes c y 7;likes c z 8;"
      + "likes d x 9;likes d y 0;likes d z 1;border a b;border a c;border a d;border b c;border b d;border c d;taste worth;winter;draw 500;";
  private static final String FOUR = "food f 30;map a scale 1 hunger 1;map b scale 1 hunger 2;map c scale 1 hunger 3;map d scale 1 hunger 4;"
      + "place p size 9 worth 1 on a;place q size 9 worth 2 on b;place r size 9 worth 3 on c;place s size 9 worth 4 on d;";

  public static void main(String[] args) {
    promises1to5();
    promises6to11();
    give();
    fold();
    put();
    year();
    undo();
    redo();
    hungry();
    needs();
    over();
    bitesIn();
    will();
    doom();
    bitten();
    gone();
    land();
    ration();
    rationTogether();
    rationOfFour();
    rationMends();
    keep();
    keepOfFour();
    folds();
    fewestFolds();
    drawers();
    least();
    bites();
    odds();
    lies();
    trial();
    untell();
    later();
    fit();
    sure();
    ask();
    image();
    back();
    about();
    Texts.finish("EdgesOfPromisesTest");
  }

  private static void none(String call, int got) { Texts.due(call, got, -1); }

  private static void lying(HungryMaps x, String what, int... want) {
    Texts.due(what + ": how many lie", x.about(14), want.length);
    for (int i = 0; i < want.length; i++) Texts.due(what + ": lies " + i, x.lies(i), want[i]);
    for (int i : new int[] {LEAST, -1, want.length, 4, 5, 32, MOST}) none(what + ": lies " + i, x.lies(i));
  }

  private static void promises1to5() {
    Texts.by("Promise 1: An empty HOUSE");
    emptyHouse(new HungryMaps());
    emptyHouse(Texts.house(""));
    feed();
    end();
    house();
    manyHouses();
    fault();
  }

  private static void emptyHouse(HungryMaps x) {
    for (int what = 0; what < 15; what++) Texts.due("about " + what, x.about(what), 0);
    none("store", x.store(0));
    none("map", x.map(0, 0));
    none("place", x.place(0, 0));
    Texts.due("taste", x.taste(0, 0), -1000000);
    none("likes", x.likes(0, 0));
    none("trough", x.trough(0, 0));
    none("give", x.give(0, 0, 1));
    none("fold", x.fold(0));
    none("put", x.put(0, 0));
    Texts.due("hungry", x.hungry(), 0);
    none("needs", x.needs(0, 0));
    none("over", x.over(0));
    none("bitesIn", x.bitesIn(0));
    none("will", x.will(0, 0));
    none("doom 0", x.doom(0));
    none("doom 1", x.doom(1));
    Texts.due("bitten", x.bitten(), 0);
    Texts.due("gone", x.gone(), 0);
    Texts.due("land", x.land(40), 0);
    none("ration", x.ration(0, 0));
    none("keep", x.keep(0, 0));
    Texts.due("folds", x.folds(20, 0), 0);
    Texts.due("which", x.folds(20, 1), 0);
    for (int n = 1; n <= 4; n++) Texts.due("drawers " + n, x.drawers(n), 1);
    lying(x, "of no maps");
    Texts.due("least", x.least(), 0);
    Texts.due("bites", x.bites(), 0);
    none("odds", x.odds(0, 0, 0));
    Texts.due("fit", x.fit(0), 1);
    none("sure", x.sure(0, 0));
    none("ask", x.ask(1, 0, 0));
    none("back", x.back(0));
    Texts.due("no act so far", x.undo(), false);
    Texts.due("a year", x.year(), 0);
    Texts.due("year 1", x.about(4), 1);
    Texts.due("an act", x.undo(), true);
    Texts.due("image", x.image(2), 0);
    Texts.due("back to it", x.back(2), 0);
  }

  private static void feed() {
    Texts.by("Promise 2: NONE, and nothing comes, if there would be more than 1,600");
    HungryMaps x = new HungryMaps();
    Texts.feed(x, "winter;");
    x.feed(0x20202020, 0x20202020, 0x20202020, 0x20202020, 0x20202020);
    Texts.due("27", x.about(12), 27);
    for (int i = 0; i < 77; i++) x.feed(0x20202020, 0x20202020, 0x20202020, 0x20202020, 0x20202020);
    Texts.due("1567", x.about(12), 1567);
    Texts.due("up to 1587", x.feed(0x20202020, 0x20202020, 0x20202020, 0x20202020, 0x20202020), 1587);
    none("13 are free", x.feed(LEAST, MOST, -1, -1, -1));
    Texts.due("nothing came", x.about(12), 1587);
    Texts.due("end 1580", x.end(1580), 1580);
    Texts.due("just 1600", x.feed(0x20202020, 0x20202020, 0x20202020, 0x20202020, 0x20202020), 1600);
    none("full", x.feed(-1, -1, -1, -1, -1));
    none("full still", x.feed(0, 0, 0, 0, 0));
    Texts.due("nothing came", x.about(12), 1600);
    Texts.due("the text is as it was", x.house(), 0);
    Texts.due("winter", x.about(5), 1);
    Texts.due("20 on the empty tape", x.feed(0, 0, 0, 0, 0), 20);
    Texts.by("Promise 2: Twenty bytes come behind those on the TAPE, of each number the highest first");
    for (int i = 0; i < 20; i++) {
      int[] n = {0x20202020, 0x20202020, 0x20202020, 0x20202020, 0x20202020};
      n[i / 4] |= 0x80 << 24 - i % 4 * 8;
      HungryMaps y = new HungryMaps();
      y.feed(n[0], n[1], n[2], n[3], n[4]);
      none("a byte above 127", y.house());
      Texts.due("its place", y.fault(1), i);
    }
  }

  private static void end() {
    Texts.by("Promise 3: NONE, doing nothing, if it has not so many, or n is below 0");
    HungryMaps x = new HungryMaps();
    none("1 of none", x.end(1));
    Texts.due("0 of none", x.end(0), 0);
    Texts.feed(x, "winter;");
    for (int n : new int[] {LEAST, -2, -1, 8, 20, 1600, MOST}) {
      none("end " + n, x.end(n));
      Texts.due("as it was", x.about(12), 7);
    }
    Texts.due("all of them", x.end(7), 7);
    Texts.due("the text is whole", x.house(), 0);
    none("end 1 behind a house", x.end(1));
    Texts.feed(x, "winter;draw 5;");
    Texts.due("0", x.end(0), 0);
    none("what was cut off does not come again", x.end(1));
    Texts.due("an empty house", x.house(), 0);
    Texts.due("no winter", x.about(5), 0);
  }

  private static void house() {
    Texts.by("Promise 4: NONE: a FAULT (all stays)");
    HungryMaps x = Texts.house(FULL);
    x.give(0, 1, 5);
    x.year();
    x.fold(3);
    x.undo();
    x.image(1);
    x.later(7);
    x.trial(1, 2, 3, 4, true);
    x.drawers(4);
    int[] before = new int[15];
    for (int what = 0; what < 15; what++) before[what] = x.about(what);
    Texts.feed(x, "food e 1;map e scale 1 hunger 1;taste size;draw 1;winter;winter;");
    none("a fault", x.house());
    for (int what = 0; what < 15; what++) Texts.due("about " + what, x.about(what), what == 12 ? 64 : before[what]);
    Texts.due("fault", x.fault(0), 2);
    Texts.due("taste stays", x.taste(6, 3), 5);
    Texts.due("stores stay", x.store(1), 45);
    Texts.due("what lies there stays", x.lies(3), 3);
    Texts.due("redo stays", x.redo(), true);
    Texts.due("the box stays", x.back(1), 1);
    Texts.by("Promise 4: (all as told, year 0, no ACTS are kept, no TRIALS are, nothing lies there, BOXES are empty then; the TIME stays)");
    x.drawers(4);
    x.image(0);
    x.year();
    Texts.due("all but the last line", x.end(57), 57);
    Texts.due("how many maps", x.house(), 1);
    int[] want = {1, 1, 0, 0, 0, 1, 1, 0, 0, 0, 0, 7, 0, 2, 0};
    for (int what = 0; what < 15; what++) Texts.due("about " + what, x.about(what), want[what]);
    none("lies", x.lies(0));
    for (int box = 0; box < 3; box++) none("box " + box, x.back(box));
    Texts.due("no trial to untell", x.untell(0), false);
    Texts.due("all fit", x.fit(MOST), 6);
    Texts.due("no undo", x.undo(), false);
    Texts.due("no redo", x.redo(), false);
  }

  /** As many houses as an object's calls allow: what one leaves behind must not gather. */
  private static void manyHouses() {
    Texts.by("Promise 4: The TAPE (empty then) is the HOUSE");
    HungryMaps x = new HungryMaps();
    for (int i = 1; i <= 70; i++) {
      int[] n = Texts.numbers("map a scale 1 hunger " + "1+".repeat(29) + i % 9 + ";");
      for (int k = 0; k < n.length; k += 5) Texts.due("feed", x.feed(n[k], n[k + 1], n[k + 2], n[k + 3], n[k + 4]), 20 + 4 * k);
      Texts.due("house " + i, x.house(), 1);
      Texts.due("its hunger", x.map(0, 1), 29 + i % 9);
    }
  }

  private static void fault() {
    Texts.by("Promise 5: Of the latest house() what 0: its FAULT (0), 1: its place (NONE). NONE for another what");
    HungryMaps x = new HungryMaps();
    Texts.due("none so far", x.fault(0), 0);
    none("no place so far", x.fault(1));
    Texts.feed(x, "food x 100;");
    x.house();
    for (int i = 0; i < 2; i++) {
      Texts.due("4", x.fault(0), 4);
      Texts.due("at 7", x.fault(1), 7);
      for (int what : new int[] {LEAST, -1, 2, 3, MOST}) none("what " + what, x.fault(what));
      x.year();
      x.end(3);
    }
    x.house();
    Texts.due("of the latest", x.fault(0), 2);
    Texts.due("its place", x.fault(1), 0);
    x.end(0);
    x.house();
    Texts.due("the latest has none", x.fault(0), 0);
    none("nor a place", x.fault(1));
    none("what 2 of none", x.fault(2));
  }

  private static void promises6to11() {
    int[] off = {LEAST, -32, -2, -1, 8, 9, 31, 32, 33, MOST};
    HungryMaps x = Texts.house(FULL);
    Texts.by("Promise 6: NONE if there is none such");
    int[] stores = {99, 50, 0};
    for (int f = 0; f < 3; f++) Texts.due("store " + f, x.store(f), stores[f]);
    none("store 3", x.store(3));
    for (int f : off) none("store " + f, x.store(f));
    Texts.by("Promise 7: NONE if there is none such, or for another what");
    int[][] maps = {{1, 10, 0, 0, 0, 0, 131, 14}, {4, 20, 0, 0, 0, 1, 14, 13}, {6, 30, 0, 0, 0, 2, 58, 11}, {9, 0, 0, 0, 1, 3, 226, 7}};
    for (int m = 0; m < 4; m++) for (int what = 0; what < 8; what++) Texts.due("map " + m + " " + what, x.map(m, what), maps[m][what]);
    for (int i : off) {
      none("map " + i, x.map(i, 0));
      none("what " + i, x.map(3, i));
      none("both", x.map(i, i));
    }
    none("map 4", x.map(4, 0));
    Texts.by("Promise 8: NONE if there is none such, or for another what");
    int[][] places = {{10, 1, 0, 1}, {60, 9, 0, 15}, {1, 0, 0, 2}, {20, 2, 0, 6}, {30, 3, 0, 4}, {40, 4, 0, 12}, {50, 5, 0, 8}, {8, 7, 0, 9}};
    for (int p = 0; p < 8; p++) for (int what = 0; what < 4; what++) Texts.due("place " + p + " " + what, x.place(p, what), places[p][what]);
    for (int i : off) {
      none("place " + i, x.place(i, 0));
      none("what " + i, x.place(7, i));
    }
    none("what 4", x.place(0, 4));
    Texts.by("Promise 9: -1000000 if one can't be");
    for (int p = 0; p < 8; p++) for (int m = 0; m < 4; m++) Texts.due("taste " + p + " " + m, x.taste(p, m), places[p][1]);
    for (int i : off) {
      Texts.due("taste of " + i, x.taste(i, 0), -1000000);
      Texts.due("taste for " + i, x.taste(0, i), -1000000);
    }
    Texts.due("taste for 4", x.taste(0, 4), -1000000);
    Texts.by("Promise 10: NONE if one can't be");
    for (int m = 0; m < 4; m++) for (int f = 0; f < 3; f++) Texts.due("likes " + m + " " + f, x.likes(m, f), m * 3 + f < 10 ? m * 3 + f : m * 3 + f - 10);
    for (int i : off) {
      none("likes of " + i, x.likes(i, 0));
      none("likes the food " + i, x.likes(0, i));
      none("trough of " + i, x.trough(i, 0));
      none("trough with " + i, x.trough(0, i));
    }
    none("likes 4 0", x.likes(4, 0));
    none("likes 0 3", x.likes(0, 3));
    Texts.by("Promise 11: NONE if one can't be");
    none("trough 4 0", x.trough(4, 0));
    none("trough 0 3", x.trough(0, 3));
    x.give(3, 1, 50);
    for (int m = 0; m < 4; m++) for (int f = 0; f < 3; f++) Texts.due("trough " + m + " " + f, x.trough(m, f), m == 3 && f == 1 ? 50 : 0);
  }

  private static void give() {
    Texts.by("Promise 12: NONE, doing nothing, if there is not so much, or one can't be");
    HungryMaps x = Texts.house(FULL);
    x.put(0, 1);
    x.undo();
    int[][] wrong = {{0, 0, 0}, {0, 0, -1}, {0, 0, 100}, {0, 0, LEAST}, {0, 0, MOST}, {0, 1, 51}, {0, 2, 1}, {-1, 0, 1}, {4, 0, 1}, {0, -1, 1}, {0, 3, 1},
        {LEAST, 0, 1}, {MOST, 0, 1}, {0, LEAST, 1}, {0, MOST, 1}, {32, 0, 1}};
    for (int[] w : wrong) none("give " + w[0] + " " + w[1] + " " + w[2], x.give(w[0], w[1], w[2]));
    Texts.due("no act", x.about(8), 0);
    Texts.due("redo stays", x.about(9), 1);
    Texts.due("all is in store", x.store(1), 50);
    Texts.due("nothing in the trough", x.trough(0, 1), 0);
    Texts.due("all there is", x.give(0, 1, 50), 0);
    none("one more", x.give(0, 1, 1));
    Texts.due("99 at once", x.give(3, 0, 99), 0);
    Texts.due("in the trough", x.trough(3, 0), 99);
    x.undo();
    Texts.due("1", x.give(3, 0, 1), 98);
    Texts.due("and 98", x.give(3, 0, 98), 0);
    Texts.due("99 again", x.trough(3, 0), 99);
    Texts.due("a folded map is given too", x.map(3, 2), 891);
  }

  private static void fold() {
    Texts.by("Promise 13: NONE, doing nothing, if there is none such");
    HungryMaps x = Texts.house(FULL);
    for (int m : new int[] {LEAST, -1, 4, 5, 32, 35, MOST}) none("fold " + m, x.fold(m));
    Texts.due("d alone", x.about(7), 8);
    Texts.due("no act", x.about(8), 0);
    Texts.due("d is not any more", x.fold(3), 0);
    for (int m = 0; m < 4; m++) {
      Texts.due("fold " + m, x.fold(m), 1);
      Texts.due("as bits", x.about(7), (2 << m) - 1);
      Texts.due("of the map", x.map(m, 4), 1);
    }
    Texts.due("acts", x.about(8), 5);
  }

  private static void put() {
    Texts.by("Promise 14: where it was; NONE, doing nothing, if one can't be");
    HungryMaps x = Texts.house(FULL);
    for (int i : new int[] {LEAST, -1, 4, 5, 32, MOST}) {
      none("put " + i + " 0", x.put(i, 0));
      none("put 0 " + i, x.put(0, i));
    }
    Texts.due("no act", x.about(8), 0);
    for (int m = 0; m < 4; m++) {
      for (int d = 3; d >= 0; d--) {
        Texts.due("put " + m + " " + d, x.put(m, d), d == 3 ? m : d + 1);
        Texts.due("drawer", x.map(m, 5), d);
      }
    }
    Texts.due("acts", x.about(8), 16);
    Texts.due("where it is", x.put(3, 0), 0);
    Texts.due("is an act", x.about(8), 17);
  }

  private static void year() {
    Texts.by("Promise 15: how many PLACES got smaller; NONE, doing nothing, behind 999 of them");
    HungryMaps x = Texts.house(FOUR);
    Texts.due("four", x.year(), 4);
    x.fold(0);
    Texts.due("three", x.year(), 3);
    HungryMaps y = new HungryMaps();
    for (int i = 0; i < 998; i++) y.year();
    Texts.due("the 999th", y.year(), 0);
    y.fold(0);
    none("behind 999", y.year());
    Texts.due("999", y.about(4), 999);
    Texts.due("no act more", y.about(8), 40);
    y.undo();
    Texts.due("998", y.about(4), 998);
    Texts.due("it can be again", y.redo(), true);
    none("behind 999 again", y.year());
    // A place is smaller by what it is behind the year, not by having been bitten in it.
    HungryMaps z = Texts.house("food f 9;map a scale 1 hunger 2;map b scale 1 hunger 0;place p size 6 worth 1 on a b;");
    z.give(1, 0, 1);
    Texts.due("bitten by 2, bigger by 1", z.year(), 1);
    z.give(1, 0, 2);
    Texts.due("bitten by 2, bigger by 2", z.year(), 0);
  }

  private static void undo() {
    Texts.by("Promise 16: true; false if there is none");
    HungryMaps x = Texts.house(FULL);
    Texts.due("none so far", x.undo(), false);
    x.give(9, 9, 9);
    Texts.due("a refused call is no act", x.undo(), false);
    x.year();
    Texts.due("a year", x.undo(), true);
    Texts.due("year 0", x.about(4), 0);
    Texts.due("winter again", x.about(5), 1);
    Texts.due("the seed again", x.about(6), 500);
    Texts.due("none is left", x.undo(), false);
    x.redo();
    x.image(0);
    x.back(0);
    Texts.due("none behind back", x.undo(), false);
    Texts.due("year 1", x.about(4), 1);
  }

  private static void redo() {
    Texts.by("Promise 17: true; false if there is none");
    HungryMaps x = Texts.house(FULL);
    Texts.due("none so far", x.redo(), false);
    x.give(0, 0, 9);
    Texts.due("none taken back", x.redo(), false);
    x.undo();
    Texts.due("taken back", x.redo(), true);
    Texts.due("done again", x.store(0), 90);
    Texts.due("into the trough", x.trough(0, 0), 9);
    Texts.due("none is left", x.redo(), false);
    x.undo();
    x.image(0);
    x.back(0);
    Texts.due("none behind back", x.redo(), false);
    Texts.due("store", x.store(0), 99);
  }

  private static void hungry() {
    Texts.by("Promise 18: MAPS to which less is GIVEN now than their HUNGER, as bits");
    HungryMaps x = Texts.house(FULL);
    Texts.due("all but the folded one", x.hungry(), 7);
    x.fold(3);
    Texts.due("all four", x.hungry(), 15);
    x.give(0, 1, 9);
    Texts.due("9 of 10", x.hungry(), 15);
    x.give(0, 1, 1);
    Texts.due("10 of 10", x.hungry(), 14);
    x.give(3, 0, 4);
    Texts.due("36 of 40", x.hungry(), 14);
    x.give(3, 0, 1);
    Texts.due("45 of 40", x.hungry(), 6);
    for (int m = 0; m < 4; m++) x.put(m, 0);
    Texts.due("10 of 16, 45 of 46", x.hungry(), 15);
  }

  private static void needs() {
    Texts.by("Promise 19: (0: it is already), whatever is in store; NONE if it likes it 0 and it is not enough, or one can't be");
    HungryMaps x = Texts.house(FULL);
    int[][] want = {{-1, 10, 5}, {7, 5, 4}, {5, 5, 4}, {0, 0, 0}};
    for (int m = 0; m < 4; m++) for (int f = 0; f < 3; f++) Texts.due("needs " + m + " " + f, x.needs(m, f), want[m][f]);
    for (int i : new int[] {LEAST, -1, 4, 32, MOST}) {
      none("map " + i, x.needs(i, 0));
      none("food " + i, x.needs(0, i));
    }
    none("food 3", x.needs(0, 3));
    x.fold(3);
    none("d likes y 0", x.needs(3, 1));
    Texts.due("40 by 9", x.needs(3, 0), 5);
    Texts.due("40 by 1, with none in store", x.needs(3, 2), 40);
    x.give(0, 1, 9);
    Texts.due("one more", x.needs(0, 1), 1);
    none("of what it likes 0", x.needs(0, 0));
    x.give(0, 1, 1);
    Texts.due("just enough", x.needs(0, 1), 0);
    Texts.due("enough, if it likes it 0", x.needs(0, 0), 0);
    x.give(0, 1, 1);
    Texts.due("more than enough", x.needs(0, 1), 0);
  }

  private static void over() {
    Texts.by("Promise 20: (0: none); NONE if there is none such");
    HungryMaps x = Texts.house(FULL);
    for (int m = 0; m < 4; m++) Texts.due("over " + m, x.over(m), 0);
    for (int m : new int[] {LEAST, -1, 4, 32, MOST}) none("over " + m, x.over(m));
    x.give(1, 1, 5);
    Texts.due("20 of 20", x.over(1), 0);
    x.give(1, 0, 1);
    Texts.due("23 of 20", x.over(1), 3);
    x.give(3, 0, 2);
    Texts.due("18 of none", x.over(3), 18);
    x.fold(3);
    Texts.due("18 of 40", x.over(3), 0);
  }

  private static void bitesIn() {
    Texts.by("Promise 21: (0: the next one, 29 at most, nothing fed between); NONE if in none of these, or there is none such");
    for (int y = 0; y <= 31; y++) {
      HungryMaps x = Texts.house("map z scale 1 hunger 1;map a scale 1 hunger year > " + y + " - 1;place o size 60 worth 1 on z;place p size 9 worth 1 on a;");
      Texts.due("from year " + y + " on", x.bitesIn(1), y <= 29 ? y : -1);
      Texts.due("z at once", x.bitesIn(0), 0);
    }
    HungryMaps x = Texts.house("food f 9;map z scale 1 hunger 0;map a scale 1 hunger 3;place p size 9 worth 1 on a;place q size 1 worth 1 on z;");
    for (int m : new int[] {LEAST, -1, 2, 4, 32, MOST}) none("map " + m, x.bitesIn(m));
    none("never", x.bitesIn(0));
    x.year();
    Texts.due("it bit already", x.map(1, 3), 3);
    Texts.due("and bites again", x.bitesIn(1), 0);
    x.give(1, 0, 3);
    Texts.due("what is in the trough counts once", x.bitesIn(1), 1);
    x.year();
    x.year();
    x.year();
    Texts.due("all is eaten", x.map(1, 3), 9);
    none("nothing is there to be bitten", x.bitesIn(1));
  }

  private static void will() {
    Texts.by("Promise 22: WILL (n 0 .. 40); NONE if one can't be");
    HungryMaps x = Texts.house("map a scale 1 hunger 1;place o size 5 worth 1 on a;place p size 60 worth 1 on a;");
    for (int n = 0; n <= 40; n++) {
      Texts.due("will 1 " + n, x.will(1, n), 60 - n);
      Texts.due("will 0 " + n, x.will(0, n), 5);
    }
    for (int i : new int[] {LEAST, -1, 41, 42, MOST}) {
      none("n " + i, x.will(0, i));
      none("place " + i, x.will(i, 0));
    }
    none("place 2", x.will(2, 0));
    Texts.by("WILL: sizes behind n YEARS, nothing fed between (by what is now, TROUGHS too; nothing is done)");
    HungryMaps y = Texts.house("food f 9;map a scale 1 hunger 1;place p size 9 worth 1 on a;");
    y.give(0, 0, 3);
    Texts.due("none", y.will(0, 0), 9);
    Texts.due("a year, 2 over", y.will(0, 1), 11);
    Texts.due("the next", y.will(0, 2), 10);
    Texts.due("40", y.will(0, 40), 0);
    Texts.due("nothing is done", y.about(4), 0);
    Texts.due("the trough is as it was", y.trough(0, 0), 3);
    // The winters to come are those of the SEED.
    HungryMaps z = Texts.house("map a scale 1 hunger cold;place p size 60 worth 1 on a;draw 57;");
    int seed = 57, cold = 0, size = 60;
    for (int n = 0; n <= 40; n++) {
      Texts.due("winters by the seed, " + n, z.will(0, n), size);
      size -= cold;
      seed = (seed * 137 + 71) % 1000;
      cold = seed / 10 % 2;
    }
  }

  private static void doom() {
    Texts.by("Promise 23: NONE if 30 are not enough, or for another what");
    for (int size = 29; size <= 32; size++) {
      HungryMaps x = Texts.house("map a scale 1 hunger 1;place p size 60 worth 0 on a;place q size " + size + " worth 1 on a;taste worth;");
      Texts.due("size " + size, x.doom(0), size <= 30 ? size : -1);
      Texts.due("which", x.doom(1), size <= 30 ? 1 : -1);
      for (int what : new int[] {LEAST, -1, 2, MOST}) none("what " + what, x.doom(what));
    }
    HungryMaps y = Texts.house("map a scale 1 hunger 9;place p size 9 worth 0 on a;");
    Texts.due("in a year", y.doom(0), 1);
    Texts.due("p", y.doom(1), 0);
    y.fold(0);
    none("none which, though there was one before", y.doom(1));
    none("never", y.doom(0));
    y.fold(0);
    y.year();
    none("what is gone already does not count", y.doom(0));
    Texts.by("DOOM: the first such PLACE");
    HungryMaps z = Texts.house("map a scale 1 hunger 20;place o size 5 worth 0 on a;place p size 9 worth 1 on a;place q size 9 worth 9 on a;taste worth;");
    Texts.due("two years", z.doom(0), 1);
    Texts.due("p, though q is eaten first", z.doom(1), 1);
  }

  private static void bitten() {
    Texts.by("Promise 24: BITTEN, as bits");
    StringBuilder s = new StringBuilder("food f 99;map a scale 1 hunger 80;");
    for (char c = 'p'; c <= 'w'; c++) s.append("place ").append(c).append(" size 10 worth 1 on a;");
    HungryMaps x = Texts.house(s.toString());
    Texts.due("all eight", x.bitten(), 255);
    x.give(0, 0, 70);
    Texts.due("the first", x.bitten(), 1);
    x.give(0, 0, 9);
    Texts.due("by 1", x.bitten(), 1);
    x.give(0, 0, 1);
    Texts.due("none", x.bitten(), 0);
    x.give(0, 0, 5);
    Texts.due("bigger", x.bitten(), 0);
    Texts.due("nothing is done", x.about(4), 0);
    x.year();
    Texts.due("bigger by 5", x.place(0, 0), 15);
    x.year();
    // 80 of 85: what is left of the last one bitten, w, is 5.
    Texts.due("w is left, by 5", x.place(7, 0), 5);
    Texts.due("w alone can get smaller", x.bitten(), 128);
    x.year();
    Texts.due("what is gone can't", x.bitten(), 0);
  }

  private static void gone() {
    Texts.by("Promise 25: PLACES that are gone, as bits");
    StringBuilder s = new StringBuilder("food f 99;map a scale 1 hunger 10;");
    for (char c = 'p'; c <= 'w'; c++) s.append("place ").append(c).append(" size 10 worth 1 on a;");
    HungryMaps x = Texts.house(s.toString());
    for (int n = 0; n <= 8; n++) {
      Texts.due("behind " + n, x.gone(), (1 << n) - 1);
      x.year();
    }
    x.give(0, 0, 11);
    x.year();
    Texts.due("p is there again, by 1", x.gone(), 254);
    x.undo();
    Texts.due("all", x.gone(), 255);
  }

  private static void land() {
    Texts.by("Promise 26: behind n YEARS (0 .. 40); NONE for another number");
    StringBuilder s = new StringBuilder("map a scale 1 hunger 1;");
    for (char c = 'p'; c <= 'w'; c++) s.append("place ").append(c).append(" size 60 worth 9 on a;");
    HungryMaps x = Texts.house(s.toString());
    for (int n = 0; n <= 40; n++) Texts.due("land " + n, x.land(n), 8 * 60 * 9 - 9 * n);
    for (int n : new int[] {LEAST, -2, -1, 41, 42, MOST}) none("land " + n, x.land(n));
    Texts.due("worth nothing", Texts.house("map a scale 1 hunger 1;place p size 60 worth 0 on a;").land(0), 0);
  }

  private static void ration() {
    Texts.by("Promise 27: NONE if it can't be, or one can't be. How much more for each MAP lies there then (behind NONE: nothing)");
    HungryMaps x = Texts.house(FULL);
    for (int i : new int[] {LEAST, -256, -2, -1, 256, 257, 511, 512, MOST}) {
      x.drawers(4);
      none("set " + i, x.ration(0, i));
      lying(x, "behind NONE");
    }
    for (int i : new int[] {LEAST, -1, 3, 4, 32, MOST}) {
      x.drawers(4);
      none("food " + i, x.ration(i, 0));
      lying(x, "behind NONE");
    }
    Texts.due("none to be spared", x.ration(0, 0), 0);
    lying(x, "none", 0, 0, 0, 0);
    // All bite q, and 63 for d, folded as it is, make it 60 again.
    Texts.due("all to be spared", x.ration(0, 255), 7);
    lying(x, "all", 0, 0, 0, 7);
    none("z, of which none is in store", x.ration(2, 2));
    lying(x, "behind NONE");
    HungryMaps y = Texts.house(FOUR);
    none("a bit of no place", y.ration(0, 16));
    Texts.due("all there are", y.ration(0, 15), 10);
    Texts.due("nothing is done", y.store(0), 30);
    Texts.due("no maps", Texts.house("food f 9;").ration(0, 0), 0);
    none("no maps, and a set", Texts.house("food f 9;").ration(0, 1));
  }

  private static void rationTogether() {
    Texts.by("RATION: 24 together at most, no more than is in store");
    for (int n = 22; n <= 26; n++) {
      HungryMaps x = Texts.house("food f 99;map a scale 1 hunger " + n + ";place p size 60 worth 1 on a;");
      Texts.due("one of " + n, x.ration(0, 1), n <= 24 ? n : -1);
      HungryMaps y = Texts.house("food f 99;map a scale 1 hunger 10;map b scale 1 hunger " + (n - 10) + ";place p size 60 worth 1 on a;place q size 60 worth 1 on b;");
      Texts.due("two of " + n, y.ration(0, 3), n <= 24 ? n : -1);
      if (n <= 24) lying(y, "two", 10, n - 10);
      else lying(y, "behind NONE");
    }
    for (int store = 4; store <= 6; store++) {
      HungryMaps x = Texts.house("food f " + store + ";map a scale 1 hunger 5;place p size 60 worth 1 on a;");
      Texts.due(store + " in store", x.ration(0, 1), store >= 5 ? 5 : -1);
    }
    HungryMaps z = Texts.house("food f 6;map a scale 1 hunger 5;place p size 60 worth 1 on a;");
    z.give(0, 0, 2);
    Texts.due("3 more, with 2 in the trough", z.ration(0, 1), 3);
    z.give(0, 0, 3);
    Texts.due("none more", z.ration(0, 1), 0);
    lying(z, "none more", 0);
  }

  private static void rationOfFour() {
    Texts.by("RATION: the fewest together; of like ones the first (MAP by MAP, the fewest first)");
    HungryMaps x = Texts.house(FOUR);
    int[] hungers = {1, 2, 3, 4};
    for (int set = 0; set < 16; set++) {
      int[] want = new int[4];
      int sum = 0;
      for (int m = 0; m < 4; m++) if ((set >> m & 1) != 0) sum += want[m] = hungers[m];
      Texts.due("set " + set, x.ration(0, set), sum);
      lying(x, "set " + set, want);
    }
    // Any one of b, c, d, if fed by 1 beyond its hunger of none, makes p as big again as it was: d is the last, so the first way.
    HungryMaps y = Texts.house("food f 9;map a scale 1 hunger 1;map b scale 1 hunger 0;map c scale 1 hunger 0;map d scale 1 hunger 0;place p size 9 worth 1 on a b c d;");
    Texts.due("one", y.ration(0, 1), 1);
    lying(y, "to the last", 0, 0, 0, 1);
    y.fold(3);
    Texts.due("a folded one feeds too", y.ration(0, 1), 1);
    lying(y, "to the last still", 0, 0, 0, 1);
  }

  private static void rationMends() {
    Texts.by("RATION: so that none of these gets smaller in the next YEAR");
    // a, which likes nothing, eats all of p; only d, fed far beyond its own hunger, makes it big again.
    String abc = "food f 99;map a scale 1 hunger 60;map b scale 1 hunger 0;map c scale 1 hunger 0;map d scale 1 hunger ";
    String rest = ";place p size 60 worth 1 on a d;likes a f 0;likes d f 9;";
    int[][] all = {{0, 7}, {3, 7}, {4, 8}, {12, 8}, {13, 9}, {99, 18}};
    for (int[] h : all) {
      HungryMaps x = Texts.house(abc + h[0] + rest);
      Texts.due("hunger of d " + h[0], x.ration(0, 1), h[1]);
      lying(x, "d alone", 0, 0, 0, h[1]);
    }
    HungryMaps y = Texts.house(abc + 0 + rest.replace("likes d f 9", "likes d f 1"));
    y.give(3, 0, 36);
    Texts.due("36 and 24", y.ration(0, 1), 24);
    y.undo();
    y.give(3, 0, 35);
    none("35 and 25", y.ration(0, 1));
    y.give(3, 0, 24);
    Texts.due("59 and 1", y.ration(0, 1), 1);
    y.give(3, 0, 1);
    Texts.due("60", y.ration(0, 1), 0);
    HungryMaps u = Texts.house(abc + 3 + rest);
    u.give(3, 0, 99);
    Texts.due("far more than enough", u.ration(0, 1), 0);
    u.undo();
    Texts.due("as it is now, not as it was", u.ration(0, 1), 7);
    lying(u, "d alone", 0, 0, 0, 7);
    // b has 1 over by what it likes, so it makes up for what a bites; it likes f 0.
    HungryMaps t = Texts.house("food f 9;food g 9;map a scale 1 hunger 1;map b scale 1 hunger 3;place p size 9 worth 1 on a b;likes a f 0;likes b f 0;");
    t.give(1, 1, 4);
    Texts.due("1 is over already", t.ration(0, 1), 0);
    t.undo();
    none("none is over", t.ration(0, 1));
    t.give(1, 1, 3);
    none("just enough is not over", t.ration(0, 1));
    Texts.due("one of g, to whichever", t.ration(1, 1), 1);
    lying(t, "the first way", 0, 1);
    // b would bite if it were not fed, and makes p as big again if it is: 9 times 6 is 50 and 4.
    HungryMaps z = Texts.house("food f 99;map a scale 1 hunger 4;map b scale 1 hunger 50;place p size 9 worth 1 on a b;likes a f 0;likes b f 9;");
    Texts.due("54", z.ration(0, 1), 6);
    lying(z, "54", 0, 6);
    // A map makes but one place bigger: two that are bitten need two.
    HungryMaps w = Texts.house("food f 24;map a scale 1 hunger 6;map b scale 1 hunger 0;map c scale 1 hunger 0;place p size 3 worth 1 on a b c;"
        + "place q size 3 worth 1 on a b c;likes a f 0;");
    Texts.due("3 and 3", w.ration(0, 3), 6);
    lying(w, "3 and 3", 0, 3, 3);
    w.fold(2);
    Texts.due("folded or not", w.ration(0, 3), 6);
    HungryMaps v = Texts.house("food f 24;map a scale 1 hunger 6;map b scale 1 hunger 0;place p size 3 worth 1 on a b;place q size 3 worth 1 on a b;likes a f 0;");
    none("one is not enough", v.ration(0, 3));
    Texts.due("but for one of them", v.ration(0, 1), 3);
    // The one that is in store fills b and leaves 1 over, just what a bites.
    HungryMaps s = Texts.house("food f 1;map a scale 1 hunger 1;map b scale 1 hunger 2;place p size 9 worth 1 on a b;likes a f 0;likes b f 3;");
    Texts.due("all that is in store", s.ration(0, 1), 1);
    lying(s, "all that is in store", 0, 1);
    rationWaysInTurn();
  }

  private static void rationWaysInTurn() {
    Texts.by("RATION: the fewest together; of like ones the first (MAP by MAP, the fewest first)");
    // With none for a, b needs 9: 7 for itself, and 2 over for what a bites.
    String maps = "food f 24;map a scale 1 hunger 2;map b scale 1 hunger 7;map c scale 1 hunger 7;";
    HungryMaps x = Texts.house(maps + "place p size 9 worth 1 on a b;place q size 60 worth 1 on b c;");
    Texts.due("a is fed", x.ration(0, 1), 2);
    lying(x, "a is fed", 2, 0, 0);
    x.fold(1);
    // b, which fasts, makes p bigger by all that it gets: as many, and a gets fewer.
    Texts.due("b mends", x.ration(0, 1), 2);
    lying(x, "b mends", 0, 2, 0);
    Texts.due("q by c", x.ration(0, 2), 7);
    lying(x, "q by c", 0, 0, 7);
    Texts.due("both", x.ration(0, 3), 9);
    lying(x, "both", 0, 2, 7);
    // Three ways of 3: the last map's is the first of them.
    HungryMaps y = Texts.house("food f 24;map a scale 1 hunger 3;map b scale 1 hunger 0;map c scale 1 hunger 0;place p size 9 worth 1 on a b c;");
    Texts.due("three ways", y.ration(0, 1), 3);
    lying(y, "the last map's", 0, 0, 3);
    HungryMaps z = Texts.house("food f 24;map a scale 1 hunger 3;map b scale 1 hunger 0;map c scale 1 hunger 0;place p size 9 worth 1 on a b c;likes c f 0;");
    Texts.due("two ways", z.ration(0, 1), 3);
    lying(z, "the second map's", 0, 3, 0);
    // Later ways of fewer take its place: 3 for c, 2 for b (twice), 1 for a (thrice).
    HungryMaps w = Texts.house("food f 24;map a scale 1 hunger 3;map b scale 1 hunger 0;map c scale 1 hunger 0;place p size 9 worth 1 on a b c;"
        + "likes a f 3;likes b f 2;");
    Texts.due("one way", w.ration(0, 1), 1);
    lying(w, "the first map's", 1, 0, 0);
  }

  private static void keep() {
    Texts.by("Promise 28: NONE if there is not so much in store, no MAP, or one can't be. (behind NONE: nothing)");
    HungryMaps x = Texts.house(FULL);
    for (int n : new int[] {LEAST, -2, -1, 13, 14, MOST}) {
      x.drawers(4);
      none("n " + n, x.keep(0, n));
      lying(x, "behind NONE");
    }
    for (int f : new int[] {LEAST, -1, 3, 32, MOST}) {
      x.drawers(4);
      none("food " + f, x.keep(f, 0));
      lying(x, "behind NONE");
    }
    none("one of none in store", x.keep(2, 1));
    Texts.due("none of none", x.keep(2, 0), x.land(1));
    lying(x, "none of none", 0, 0, 0, 0);
    for (int store = 11; store <= 13; store++) {
      HungryMaps y = Texts.house("food f " + store + ";map a scale 1 hunger 5;place p size 9 worth 2 on a;");
      for (int n = 0; n <= 14; n++) Texts.due(n + " of " + store, y.keep(0, n), n <= 12 && n <= store ? 2 * (4 + n) : -1);
      y.give(0, 0, 2);
      none("what is in the trough is not in store", y.keep(0, store - 1));
      Texts.due("but it counts", y.keep(0, store - 2), 2 * (4 + store));
      lying(y, "all of it", store - 2);
    }
    none("no map", Texts.house("food f 9;").keep(0, 0));
    none("no map, 1", Texts.house("food f 9;").keep(0, 1));
    Texts.due("no place", Texts.house("food f 9;map a scale 1 hunger 5;").keep(0, 3), 0);
  }

  private static void keepOfFour() {
    Texts.by("KEEP: just so many so that all sizes times worths together are most; of like ones the first likewise");
    HungryMaps x = Texts.house(FOUR);
    int bare = 8 + 7 * 2 + 6 * 3 + 5 * 4;
    for (int n = 0; n <= 12; n++) {
      Texts.due("keep " + n, x.keep(0, n), bare + 4 * n);
      lying(x, "all to d", 0, 0, 0, n);
    }
    HungryMaps y = Texts.house(FOUR.replace("worth 4", "worth 3"));
    Texts.due("c and d alike", y.keep(0, 5), bare - 5 + 15);
    lying(y, "the first way", 0, 0, 0, 5);
    // s can grow up to 60 and no further; what is left is c's.
    HungryMaps z = Texts.house(FOUR.replace("place s size 9", "place s size 58"));
    Texts.due("4, and 2 more; 6 for c", z.keep(0, 12), 8 + 14 + (6 + 6) * 3 + 60 * 4);
    lying(z, "just so many", 0, 0, 6, 6);
    HungryMaps w = Texts.house(FOUR);
    for (int m = 0; m < 4; m++) w.fold(m);
    Texts.due("folded ones make it bigger", w.keep(0, 1), 9 + 18 + 27 + 36 + 4);
  }

  private static void folds() {
    Texts.by("Promise 29: FOLD (n 1 .. 20) what 0: how many, 1: which, as bits; NONE if it can't be, or one can't be");
    HungryMaps x = Texts.house(FULL);
    for (int n : new int[] {LEAST, -1, 0, 21, 22, 32, MOST}) {
      none("n " + n, x.folds(n, 0));
      none("n " + n + " which", x.folds(n, 1));
    }
    for (int what : new int[] {LEAST, -1, 2, MOST}) none("what " + what, x.folds(1, what));
    for (int n = 1; n <= 20; n++) {
      HungryMaps y = Texts.house("map a scale 1 hunger 1;map b scale 1 hunger 1;place p size " + n + " worth 1 on b;");
      Texts.due("b must be for " + n, y.folds(n, 0), 1);
      Texts.due("which", y.folds(n, 1), 2);
      if (n > 1) Texts.due("none for a year less", y.folds(n - 1, 0), 0);
    }
    HungryMaps z = Texts.house(FOUR);
    Texts.due("two years", z.folds(2, 0), 0);
    Texts.due("three", z.folds(3, 1), 12);
    Texts.due("nine: all four", z.folds(9, 0), 4);
    Texts.due("which", z.folds(9, 1), 15);
    z.fold(0);
    z.fold(3);
    Texts.due("besides those that are", z.folds(20, 0), 2);
    Texts.due("b and c", z.folds(20, 1), 6);
    z.fold(1);
    z.fold(2);
    Texts.due("all are", z.folds(20, 0), 0);
    Texts.due("none", z.folds(20, 1), 0);
    Texts.due("nothing is done", z.about(8), 4);
  }

  private static void fewestFolds() {
    Texts.by("FOLD: the fewest MAPS; of like ones the least set as bits");
    // Without c, or without a and b, p stands: one map is fewer, though its set is greater.
    String abc = "map a scale 1 hunger 1;map b scale 1 hunger 1;map c scale 1 hunger 3;";
    HungryMaps x = Texts.house(abc + "place p size 4 worth 1 on a b c;");
    Texts.due("one", x.folds(1, 0), 1);
    Texts.due("c", x.folds(1, 1), 4);
    HungryMaps y = Texts.house(abc + "place p size 5 worth 1 on a b c;");
    Texts.due("any one: the least", y.folds(1, 1), 1);
    y.fold(0);
    Texts.due("none besides", y.folds(1, 1), 0);
    Texts.due("c for two years", y.folds(2, 1), 4);
    // Troughs count in the first year: what is over makes p bigger again.
    HungryMaps z = Texts.house("food f 9;" + abc + "place p size 4 worth 1 on a b c;");
    z.give(2, 0, 4);
    Texts.due("c is fed", z.folds(1, 0), 0);
    Texts.due("but not in the next year", z.folds(2, 1), 4);
    HungryMaps w = Texts.house("map a scale 1 hunger 4;map b scale 1 hunger 1;place p size 4 worth 1 on a;place q size 2 worth 1 on b;");
    w.year();
    Texts.due("p is gone already", w.folds(1, 1), 2);
  }

  private static void drawers() {
    Texts.by("Promise 30: how many ways. The first lies there then (behind 0: nothing); NONE for another n");
    HungryMaps x = Texts.house(FULL);
    int[] ways = {0, 0, 0, 0, 24};
    for (int n = 1; n <= 4; n++) {
      Texts.due("drawers " + n, x.drawers(n), ways[n]);
      if (n == 4) lying(x, "the first", 0, 1, 2, 3);
      else lying(x, "behind 0");
    }
    for (int n : new int[] {LEAST, -1, 0, 5, 6, 32, MOST}) none("drawers " + n, x.drawers(n));
    Texts.due("0 behind some", x.drawers(3), 0);
    lying(x, "behind 0");
    HungryMaps y = Texts.house(FOUR);
    for (int n = 1; n <= 4; n++) {
      y.keep(0, 7);
      Texts.due("drawers " + n, y.drawers(n), n * n * n * n);
      lying(y, "all in the first", 0, 0, 0, 0);
    }
    HungryMaps z = Texts.house(FOUR + "border d b;border a b;border a d;");
    Texts.due("a triangle in 2", z.drawers(2), 0);
    Texts.due("in 3", z.drawers(3), 6 * 3);
    lying(z, "the first (MAP by MAP)", 0, 1, 0, 2);
    Texts.due("nothing is done", z.map(1, 5), 0);
  }

  private static void least() {
    Texts.by("Promise 31: (0 without MAPS); NONE if 4 are not enough");
    Texts.due("no maps", Texts.house("food f 1;").least(), 0);
    Texts.due("no borders", Texts.house(FOUR).least(), 1);
    Texts.due("one border", Texts.house(FOUR + "border c d;").least(), 2);
    Texts.due("a ring", Texts.house(FOUR + "border a b;border b c;border c d;border d a;").least(), 2);
    Texts.due("a triangle", Texts.house(FOUR + "border b c;border c d;border d b;").least(), 3);
    HungryMaps x = Texts.house(FULL);
    x.drawers(4);
    Texts.due("all with all", x.least(), 4);
    lying(x, "it lets lie what lies there", 0, 1, 2, 3);
  }

  private static void bites() {
    Texts.by("Promise 32: (both in one drawer, none of both FOLDED)");
    HungryMaps x = Texts.house(FULL);
    Texts.due("each by itself", x.bites(), 0);
    x.fold(3);
    for (int m = 0; m < 4; m++) x.put(m, 2);
    Texts.due("all six", x.bites(), 6);
    int[] left = {3, 1, 0, 0};
    for (int m = 0; m < 4; m++) {
      x.fold(m);
      Texts.due("folded up to " + m, x.bites(), left[m]);
    }
    for (int m = 3; m >= 0; m--) {
      x.fold(m);
      int open = 4 - m;
      Texts.due("open from " + m, x.bites(), open * (open - 1) / 2);
    }
    x.put(3, 0);
    Texts.due("d elsewhere", x.bites(), 3);
    x.put(2, 0);
    Texts.due("two and two", x.bites(), 2);
    HungryMaps y = Texts.house(FOUR + "border a d;");
    Texts.due("one border", y.bites(), 1);
    y.fold(3);
    Texts.due("its second is folded", y.bites(), 0);
    y.fold(0);
    Texts.due("both are", y.bites(), 0);
    y.fold(3);
    Texts.due("its first is", y.bites(), 0);
  }

  private static void odds(HungryMaps x, int place, int n, int upper, int lower) {
    Texts.due("upper part of " + place + " behind " + n, x.odds(place, n, 0), upper);
    Texts.due("lower part of " + place + " behind " + n, x.odds(place, n, 1), lower);
  }

  private static void odds() {
    Texts.by("Promise 33: ODDS (n 0 .. 7), in lowest terms (0 of 1); NONE if one can't be");
    for (int draw = 0; draw < 1000; draw += 111) {
      HungryMaps x = Texts.house("map a scale 1 hunger cold;place o size 60 worth 1 on a;place p size 1 worth 9 on a;taste worth;draw " + draw + ";");
      for (int n = 0; n <= 7; n++) {
        odds(x, 0, n, 1, 1);
        // p stands if all winters that count (n - 1) are none.
        odds(x, 1, n, 1, 1 << Math.max(0, n - 1));
      }
    }
    HungryMaps y = Texts.house("map a scale 1 hunger cold;place o size 60 worth 1 on a;place p size 1 worth 9 on a;taste worth;winter;");
    odds(y, 1, 0, 1, 1);
    for (int n = 1; n <= 7; n++) odds(y, 1, n, 0, 1);
    y.year();
    odds(y, 1, 0, 0, 1);
    odds(y, 0, 7, 1, 1);
    for (int n : new int[] {LEAST, -1, 8, 9, 32, MOST}) for (int part = 0; part < 2; part++) none("n " + n, y.odds(0, n, part));
    for (int part : new int[] {LEAST, -1, 2, MOST}) none("part " + part, y.odds(0, 1, part));
    for (int place : new int[] {LEAST, -1, 2, 8, 32, MOST}) none("place " + place, y.odds(place, 1, 1));
    // Two of the six winters that count take 3 of p: it stands with one of them at most, 7 of 64.
    HungryMaps z = Texts.house("food f 9;map a scale 1 hunger cold * 2;place p size 3 worth 1 on a;");
    odds(z, 0, 7, 7, 64);
    z.give(0, 0, 2);
    // 5 by the first year: three winters take it, 42 of 64 ways have three or more.
    odds(z, 0, 7, 11, 32);
    Texts.due("nothing is done", z.about(4), 0);
    Texts.due("the trough is as it was", z.trough(0, 0), 2);
  }

  private static void lies() {
    Texts.by("Promise 34: NONE if there is none such");
    HungryMaps x = Texts.house(FOUR);
    lying(x, "at first");
    x.ration(0, 15);
    lying(x, "ration", 1, 2, 3, 4);
    x.keep(0, 2);
    lying(x, "keep", 0, 0, 0, 2);
    x.drawers(1);
    lying(x, "drawers", 0, 0, 0, 0);
    x.ration(0, 12);
    x.year();
    x.undo();
    x.fold(0);
    x.put(0, 3);
    x.image(0);
    x.back(0);
    x.least();
    x.folds(3, 0);
    lying(x, "no other call changes it", 0, 0, 3, 4);
    HungryMaps y = Texts.house("food f 9;map a scale 1 hunger 1;");
    y.keep(0, 9);
    lying(y, "one map", 9);
  }

  private static void trial() {
    Texts.by("Promise 35: (a HUNGER 1 .. 99): its number; NONE, doing nothing, if one can't be, or there are 30");
    HungryMaps x = Texts.house(FULL);
    for (int i : new int[] {LEAST, -1, 10, 11, MOST}) {
      none("a " + i, x.trial(i, 0, 0, 1, true));
      none("b " + i, x.trial(0, i, 0, 1, true));
      none("c " + i, x.trial(0, 0, i, 1, true));
    }
    for (int h : new int[] {LEAST, -1, 0, 100, 101, MOST}) none("hunger " + h, x.trial(1, 1, 1, h, false));
    Texts.due("none told", x.about(10), 0);
    Texts.due("all fit", x.fit(0), 216);
    Texts.due("the least", x.trial(0, 0, 0, 1, false), 0);
    Texts.due("the most", x.trial(9, 9, 9, 99, false), 1);
    for (int i = 2; i < 30; i++) Texts.due("trial " + i, x.trial(9, 0, 9, 90, true), i);
    none("the 31st", x.trial(9, 9, 9, 1, true));
    Texts.due("30", x.about(10), 30);
    Texts.due("all 30 count", x.fit(0), 1);
    Texts.due("5 of x", x.sure(0, 0), 5);
    Texts.due("0 of y: 99 is too much", x.sure(1, 0), 0);
    x.untell(3);
    none("an untold one is still one of 30", x.trial(9, 9, 9, 1, true));
  }

  private static void untell() {
    Texts.by("Promise 36: true; false if it is so already, or there is none such");
    HungryMaps x = Texts.house(FULL);
    for (int t : new int[] {LEAST, -1, 0, 1, 29, 30, 32, MOST}) Texts.due("none told: " + t, x.untell(t), false);
    for (int i = 0; i < 30; i++) {
      Texts.due("not told yet", x.untell(i), false);
      x.trial(1, 1, 1, 99, false);
    }
    for (int t : new int[] {LEAST, -1, 30, 31, 32, MOST}) Texts.due("none such: " + t, x.untell(t), false);
    for (int i = 0; i < 30; i++) {
      Texts.due("untell " + i, x.untell(i), true);
      Texts.due("again " + i, x.untell(i), false);
    }
    x.later(1000);
    Texts.due("later too", x.untell(29), false);
    HungryMaps y = Texts.house(FULL);
    y.trial(1, 1, 1, 99, true);
    Texts.feed(y, FULL);
    y.house();
    Texts.due("a new house has none", y.untell(0), false);
    Texts.due("and all fit", y.fit(0), 216);
    y.trial(0, 0, 0, 1, false);
    Texts.due("its own", y.untell(0), true);
  }

  private static void later() {
    Texts.by("Promise 37: (0 .. 1000): the TIME; NONE, doing nothing, for another number, or if it would be above 100,000");
    HungryMaps x = new HungryMaps();
    for (int by : new int[] {LEAST, -1000, -1, 1001, 100000, MOST}) none("later " + by, x.later(by));
    Texts.due("0 at first", x.about(11), 0);
    Texts.due("0", x.later(0), 0);
    Texts.due("1", x.later(1), 1);
    for (int i = 1; i < 100; i++) Texts.due("1000", x.later(1000), 1 + 1000 * i);
    none("100001", x.later(1000));
    Texts.due("as it was", x.about(11), 99001);
    Texts.due("100000", x.later(999), 100000);
    none("100001", x.later(1));
    Texts.due("0 still can be", x.later(0), 100000);
  }

  private static void fit() {
    Texts.by("As known at k those count that were TOLD at k or before, not UNTOLD at k or before");
    HungryMaps x = Texts.house("food f 1;");
    x.later(10);
    x.trial(1, 0, 0, 3, true);
    x.later(10);
    x.untell(0);
    int[][] known = {{LEAST, 6}, {-1, 6}, {0, 6}, {9, 6}, {10, 3}, {11, 3}, {19, 3}, {20, 6}, {21, 6}, {MOST, 6}};
    for (int[] k : known) Texts.due("at " + k[0], x.fit(k[0]), k[1]);
    x.trial(1, 0, 0, 5, true);
    x.untell(1);
    Texts.due("told and untold at one time", x.fit(20), 6);
    Texts.by("Promise 38: how many (1 without FOODS, if none that counts is against it)");
    HungryMaps y = new HungryMaps();
    Texts.due("none told", y.fit(0), 1);
    y.trial(9, 9, 9, 1, false);
    Texts.due("0 is less than 1", y.fit(0), 1);
    y.trial(0, 0, 0, 1, true);
    Texts.due("0 is not 1", y.fit(0), 0);
    Texts.due("before that", y.fit(-1), 1);
    y.untell(1);
    Texts.due("untold", y.fit(0), 1);
    Texts.by("FIT: what it can like (0 .. 5 of each FOOD that there is) (GIVEN is the HUNGER at least)");
    int[] all = {1, 6, 36, 216};
    String[] foods = {"", "food f 1;", "food f 1;food g 1;", "food f 1;food g 1;food h 1;"};
    for (int n = 0; n < 4; n++) Texts.due(n + " foods", Texts.house(foods[n]).fit(0), all[n]);
    for (int hunger = 1; hunger <= 8; hunger++) {
      HungryMaps z = Texts.house("food f 1;");
      z.trial(1, 9, 9, hunger, true);
      Texts.due("full by " + hunger, z.fit(0), Math.max(0, 6 - hunger));
      HungryMaps w = Texts.house("food f 1;");
      w.trial(1, 9, 9, hunger, false);
      Texts.due("not full by " + hunger, w.fit(0), Math.min(6, hunger));
    }
    HungryMaps v = Texts.house(FULL);
    v.trial(1, 0, 0, 1, false);
    v.trial(0, 1, 0, 1, false);
    v.trial(0, 9, 1, 4, true);
    Texts.due("0, 0, and 4 or 5", v.fit(0), 2);
    v.trial(0, 0, 2, 9, true);
    Texts.due("5", v.sure(2, 0), 5);
  }

  private static void sure() {
    Texts.by("Promise 39: -2 if it is not the same in all, NONE if none FITS, or there is no such FOOD");
    for (int liking = 0; liking <= 5; liking++) {
      HungryMaps x = Texts.house(FULL);
      for (int f : new int[] {LEAST, -1, 3, 4, 32, MOST}) none("food " + f, x.sure(f, 0));
      for (int f = 0; f < 3; f++) Texts.due("not the same", x.sure(f, 0), -2);
      x.later(5);
      if (liking > 0) x.trial(0, 0, 1, liking, true);
      x.trial(0, 0, 1, liking + 1, false);
      Texts.due("the same", x.sure(2, 5), liking);
      Texts.due("not of the others", x.sure(0, 5), -2);
      Texts.due("nor of these", x.sure(1, 5), -2);
      Texts.due("nor before", x.sure(2, 4), -2);
      x.trial(9, 9, 9, 1, true);
      x.trial(9, 9, 9, 1, false);
      none("none fits", x.sure(2, 5));
      none("no such food, none fits", x.sure(3, 5));
      Texts.due("before", x.sure(2, 4), -2);
    }
    none("no foods", new HungryMaps().sure(0, 0));
  }

  private static void ask() {
    Texts.by("Promise 40: (a HUNGER 1 .. 99); NONE if none FITS, there are no FOODS, or one can't be");
    HungryMaps x = Texts.house(FULL);
    for (int h : new int[] {LEAST, -1, 0, 100, 101, MOST}) for (int what = 0; what < 2; what++) none("hunger " + h, x.ask(h, what, 0));
    for (int what : new int[] {LEAST, -1, 2, MOST}) none("what " + what, x.ask(1, what, 0));
    Texts.due("1: full by 1 .. 5", x.ask(1, 0, 0), 1);
    Texts.due("180 of 216", x.ask(1, 1, 0), 180);
    Texts.due("3: full by 3 .. 5", x.ask(3, 0, 0), 1);
    Texts.due("108", x.ask(3, 1, 0), 108);
    // 9 times 3 is 27, 9 times 4 is 36: three and three by 9 alone.
    Texts.due("27", x.ask(27, 0, 0), 9);
    Texts.due("108", x.ask(27, 1, 0), 108);
    Texts.due("45: by 9 times 5", x.ask(45, 0, 0), 9);
    Texts.due("180", x.ask(45, 1, 0), 180);
    Texts.due("46: nothing tells more than 1", x.ask(46, 0, 0), 1);
    Texts.due("99", x.ask(99, 0, 0), 1);
    Texts.due("all are left", x.ask(99, 1, 0), 216);
    x.later(1);
    x.trial(1, 0, 0, 1, false);
    x.trial(0, 1, 0, 1, false);
    Texts.due("x and y are known: z", x.ask(27, 0, 1), 29);
    Texts.due("3 are left", x.ask(27, 1, 1), 3);
    Texts.due("as known before", x.ask(27, 0, 0), 9);
    x.trial(0, 0, 1, 4, true);
    x.trial(0, 0, 1, 5, false);
    Texts.due("all is known: the first of like ones", x.ask(27, 0, 1), 1);
    Texts.due("1 is left", x.ask(27, 1, 1), 1);
    x.trial(0, 0, 0, 1, true);
    for (int what = 0; what < 2; what++) {
      none("none fits", x.ask(27, what, 1));
      none("no foods", new HungryMaps().ask(27, what, 0));
    }
    Texts.due("one food", Texts.house("food f 1;").ask(4, 0, 0), 1);
  }

  private static void image() {
    Texts.by("Promise 41: are kept in a BOX 0 .. 2: the year; NONE if there is none such");
    HungryMaps x = Texts.house(FULL);
    for (int box : new int[] {LEAST, -1, 3, 4, 32, MOST}) none("image " + box, x.image(box));
    for (int box = 0; box < 3; box++) {
      none("empty " + box, x.back(box));
      Texts.due("image " + box, x.image(box), box);
      x.year();
    }
    Texts.due("no act", x.about(8), 3);
    x.undo();
    Texts.due("an image ends no redo", x.image(0), 2);
    Texts.due("redo", x.redo(), true);
    Texts.due("another in its stead", x.back(0), 2);
    Texts.due("year 2", x.about(4), 2);
    Texts.due("box 1 is as it was", x.back(1), 1);
  }

  private static int[] all(HungryMaps x) {
    int[] all = new int[64];
    int n = 0;
    for (int f = 0; f < 3; f++) all[n++] = x.store(f);
    for (int m = 0; m < 4; m++) for (int f = 0; f < 3; f++) all[n++] = x.trough(m, f);
    for (int p = 0; p < 8; p++) for (int what = 0; what < 3; what += 2) all[n++] = x.place(p, what);
    for (int m = 0; m < 4; m++) for (int what = 3; what < 6; what++) all[n++] = x.map(m, what);
    for (int what = 4; what < 8; what++) all[n++] = x.about(what);
    return all;
  }

  private static void back() {
    Texts.by("Promise 42: All is as it was kept (no ACTS are kept then): the year; NONE, doing nothing, if nothing was");
    HungryMaps x = Texts.house(FULL);
    x.year();
    for (int box : new int[] {LEAST, -32, -1, 0, 1, 2, 3, 32, MOST}) none("back " + box, x.back(box));
    Texts.due("acts stay", x.about(8), 1);
    x.give(3, 0, 4);
    x.fold(1);
    x.put(2, 0);
    x.image(0);
    x.image(1);
    x.image(2);
    int[] kept = all(x);
    x.year();
    x.give(2, 1, 3);
    x.fold(3);
    x.put(1, 2);
    x.year();
    x.drawers(4);
    x.undo();
    for (int box : new int[] {LEAST, -32, -31, -30, -1, 3, 32, 33, 34, MOST}) none("back " + box, x.back(box));
    Texts.due("acts stay", x.about(8), 8);
    Texts.due("redo stays", x.about(9), 1);
    for (int box = 0; box < 3; box++) {
      Texts.due("back " + box, x.back(box), 1);
      int[] now = all(x);
      for (int i = 0; i < now.length; i++) Texts.due("number " + i, now[i], kept[i]);
      Texts.due("no acts", x.about(8), 0);
      Texts.due("none to redo", x.about(9), 0);
      x.give(0, 1, 1);
      x.year();
      Texts.due("acts from there", x.about(8), 2);
    }
    lying(x, "what lies there stays", 0, 1, 2, 3);
  }

  private static void about() {
    Texts.by("Promise 43: NONE for another what");
    HungryMaps x = Texts.house(FULL);
    int[] want = {4, 3, 8, 6, 0, 1, 500, 8, 0, 0, 0, 0, 0, 5, 0};
    for (int what = 0; what < 15; what++) Texts.due("about " + what, x.about(what), want[what]);
    for (int what : new int[] {LEAST, -15, -1, 15, 16, 32, MOST}) none("about " + what, x.about(what));
    x.year();
    x.fold(0);
    x.fold(1);
    x.undo();
    x.later(9);
    x.trial(1, 1, 1, 1, true);
    x.trial(1, 1, 1, 1, true);
    x.untell(0);
    x.feed(0, 0, 0, 0, 0);
    x.keep(0, 0);
    int[] then = {4, 3, 8, 6, 1, 1, 571, 9, 2, 1, 2, 9, 20, 5, 4};
    for (int what = 0; what < 15; what++) Texts.due("then about " + what, x.about(what), then[what]);
  }
}
