/** Promises 18 to 34: what is asked of the house, of years to come, rations, folds, drawers and odds. */
public final class QuestionsTest {
  public static void main(String[] args) {
    hungryNeedsOver();
    years();
    bitesIn();
    doom();
    bittenGoneLand();
    ration();
    rationEdges();
    keep();
    folds();
    drawers();
    bites();
    odds();
    lying();
    nothingIsDone();
    Texts.finish("QuestionsTest");
  }

  private static void lies(HungryMaps x, String what, int... want) {
    Texts.due(what + ": how many lie", x.about(14), want.length);
    Texts.due(what + ": lies -1", x.lies(-1), -1);
    for (int i = 0; i < want.length; i++) Texts.due(what + ": lies " + i, x.lies(i), want[i]);
    Texts.due(what + ": lies behind", x.lies(want.length), -1);
  }

  private static void hungryNeedsOver() {
    HungryMaps x = Texts.house("food f 50;food g 50;map a scale 1 hunger 10;map b scale 1 hunger 4;map c scale 1 hunger 9 folded;"
        + "likes a f 3;likes a g 0;likes b g 4;");
    Texts.due("hungry", x.hungry(), 3);
    Texts.due("needs a f", x.needs(0, 0), 4);
    Texts.due("needs a g, not liked", x.needs(0, 1), -1);
    Texts.due("needs b f", x.needs(1, 0), 4);
    Texts.due("needs b g", x.needs(1, 1), 1);
    Texts.due("needs of a folded one", x.needs(2, 0), 0);
    Texts.due("needs 3 0", x.needs(3, 0), -1);
    Texts.due("needs 0 2", x.needs(0, 2), -1);
    Texts.due("needs -1 0", x.needs(-1, 0), -1);
    Texts.due("needs 0 -1", x.needs(0, -1), -1);
    x.give(0, 0, 3);
    Texts.due("one more is enough", x.needs(0, 0), 1);
    Texts.due("over is 0", x.over(0), 0);
    x.give(0, 0, 1);
    Texts.due("enough of what is not liked", x.needs(0, 1), 0);
    Texts.due("hungry b", x.hungry(), 2);
    Texts.due("over a", x.over(0), 2);
    x.give(1, 1, 1);
    Texts.due("just enough", x.over(1), 0);
    Texts.due("none hungry", x.hungry(), 0);
    x.give(2, 0, 5);
    Texts.due("over of a folded one", x.over(2), 5);
    Texts.due("over 3", x.over(3), -1);
    Texts.due("over -1", x.over(-1), -1);
    HungryMaps y = Texts.house("food f 1;map a scale 1 hunger 99;");
    Texts.due("whatever is in store", y.needs(0, 0), 99);
  }

  private static void years() {
    HungryMaps x = Texts.house("food f 9;map a scale 1 hunger 1;place p size 40 worth 2 on a;place q size 3 worth 5 on a;");
    for (int n = 0; n <= 37; n++) Texts.due("will 0 " + n, x.will(0, n), 40 - n);
    // From 3 and 3 on: p, of like ones the first, q, and p again.
    Texts.due("will 0 40", x.will(0, 40), 1);
    Texts.due("will 1 40", x.will(1, 40), 2);
    Texts.due("will 0 41", x.will(0, 41), -1);
    Texts.due("will 0 -1", x.will(0, -1), -1);
    Texts.due("will 2 0", x.will(2, 0), -1);
    Texts.due("will -1 0", x.will(-1, 0), -1);
    x.give(0, 0, 1);
    Texts.due("the first year is fed", x.will(0, 1), 40);
    Texts.due("the second is not", x.will(0, 2), 39);
  }

  private static void bitesIn() {
    HungryMaps x = Texts.house("map a scale 1 hunger (year > 28) * 5;map b scale 1 hunger (year > 29) * 5;map c scale 1 hunger 5;"
        + "map d scale 1 hunger 5 folded;place p size 9 worth 1 on a;place q size 9 worth 1 on b;");
    Texts.due("in the 30th year", x.bitesIn(0), 29);
    Texts.due("not in 30", x.bitesIn(1), -1);
    Texts.due("nothing there to bite", x.bitesIn(2), -1);
    Texts.due("folded", x.bitesIn(3), -1);
    Texts.due("none such", x.bitesIn(4), -1);
    Texts.due("-1", x.bitesIn(-1), -1);
    x.year();
    Texts.due("a year on", x.bitesIn(0), 28);
    Texts.due("b in the 30th", x.bitesIn(1), 29);
    HungryMaps y = Texts.house("food f 9;map a scale 1 hunger 5;place p size 9 worth 1 on a;");
    Texts.due("at once", y.bitesIn(0), 0);
    y.give(0, 0, 5);
    Texts.due("fed once", y.bitesIn(0), 1);
    y.year();
    y.year();
    Texts.due("it bit already, and bites again", y.bitesIn(0), 0);
  }

  private static void doom() {
    HungryMaps x = Texts.house("map a scale 1 hunger 1;place p size 60 worth 1 on a;place q size 30 worth 1 on a;taste 0 - size;");
    Texts.due("30 years", x.doom(0), 30);
    Texts.due("q", x.doom(1), 1);
    Texts.due("doom 2", x.doom(2), -1);
    Texts.due("doom -1", x.doom(-1), -1);
    HungryMaps y = Texts.house("map a scale 1 hunger 1;place p size 60 worth 1 on a;place q size 31 worth 1 on a;taste 0 - size;");
    Texts.due("30 are not enough", y.doom(0), -1);
    Texts.due("so none", y.doom(1), -1);
    y.year();
    Texts.due("a year on", y.doom(0), 30);
    HungryMaps z = Texts.house("map a scale 1 hunger 2;map b scale 1 hunger 4;place p size 4 worth 1 on b;place q size 2 worth 1 on a;"
        + "place r size 6 worth 1 on b;taste 0 - size;");
    Texts.due("two at once", z.doom(0), 1);
    Texts.due("the first", z.doom(1), 0);
    z.year();
    Texts.due("gone ones do not count", z.doom(0), 2);
    Texts.due("r", z.doom(1), 2);
    z.year();
    z.year();
    Texts.due("all gone", z.doom(0), -1);
  }

  private static void bittenGoneLand() {
    HungryMaps x = Texts.house("food f 9;map a scale 1 hunger 3;map b scale 1 hunger 0;place p size 3 worth 4 on a;place q size 5 worth 7 on b;"
        + "place r size 2 worth 9 on a b;");
    Texts.due("bitten", x.bitten(), 1);
    Texts.due("gone", x.gone(), 0);
    Texts.due("land 0", x.land(0), 12 + 35 + 18);
    Texts.due("land 1", x.land(1), 35 + 18);
    Texts.due("land 2", x.land(2), 35);
    Texts.due("land 40", x.land(40), 35);
    Texts.due("land 41", x.land(41), -1);
    Texts.due("land -1", x.land(-1), -1);
    x.year();
    Texts.due("p is gone", x.gone(), 1);
    Texts.due("r is next", x.bitten(), 4);
    x.give(1, 0, 2);
    Texts.due("bitten by 2 and bigger by 2", x.bitten(), 0);
    Texts.due("land with what is in the trough", x.land(1), 35 + 18);
    x.undo();
    x.year();
    Texts.due("gone", x.gone(), 5);
  }

  private static void ration() {
    HungryMaps x = Texts.house("food f 30;food g 5;map a scale 1 hunger 6;map b scale 1 hunger 4;place p size 9 worth 1 on a;"
        + "place q size 9 worth 1 on b;place r size 5 worth 1 on a b;likes a f 2;likes b f 1;likes b g 0;");
    Texts.due("p", x.ration(0, 1), 3);
    lies(x, "p", 3, 0);
    Texts.due("q", x.ration(0, 2), 4);
    lies(x, "q", 0, 4);
    // 6 for a make r so big that b bites it and not q, and it's no smaller than it was.
    Texts.due("p and q", x.ration(0, 3), 6);
    lies(x, "p and q", 6, 0);
    Texts.due("r is not bitten", x.ration(0, 4), 0);
    lies(x, "r", 0, 0);
    Texts.due("none", x.ration(0, 0), 0);
    Texts.due("q is not spared by what b likes not", x.ration(1, 2), -1);
    lies(x, "behind NONE");
    Texts.due("p by g: 6 are not in store", x.ration(1, 1), -1);
    x.give(0, 0, 1);
    Texts.due("p, with one in the trough", x.ration(0, 1), 2);
    lies(x, "p", 2, 0);
    Texts.due("no such place", x.ration(0, 8), -1);
    lies(x, "no such place");
    Texts.due("p again", x.ration(0, 1), 2);
    Texts.due("below 0", x.ration(0, -1), -1);
    Texts.due("no such food", x.ration(2, 1), -1);
    Texts.due("food -1", x.ration(-1, 1), -1);
    Texts.due("all", x.ration(0, 7), 5);
    lies(x, "all", 5, 0);
  }

  private static void rationEdges() {
    String map = "food f 99;map a scale 1 hunger ", place = ";place p size 60 worth 1 on a;";
    Texts.due("24 together", Texts.house(map + 24 + place).ration(0, 1), 24);
    Texts.due("25 are too many", Texts.house(map + 25 + place).ration(0, 1), -1);
    // a bites 4 of p; b, fed 4 beyond its hunger of none, makes it as big again: of like ones a's trough stays the emptier.
    HungryMaps x = Texts.house("food f 9;map a scale 1 hunger 4;map b scale 1 hunger 0;place p size 9 worth 1 on a b;");
    Texts.due("as many either way", x.ration(0, 1), 4);
    lies(x, "the first, by the first map", 0, 4);
    HungryMaps y = Texts.house("food f 9;map a scale 1 hunger 4;map b scale 1 hunger 0;place p size 9 worth 1 on a b;likes b f 2;");
    Texts.due("b likes it twice", y.ration(0, 1), 2);
    lies(y, "b alone", 0, 2);
    HungryMaps v = Texts.house("food f 9;map a scale 1 hunger 4;map b scale 1 hunger 3;place p size 9 worth 1 on a;place q size 9 worth 1 on b;");
    Texts.due("each its own", v.ration(0, 3), 7);
    lies(v, "each its own", 4, 3);
    // b makes p as big again only if fed 60 beyond what it gets, as a bites all of it.
    HungryMaps u = Texts.house("food f 30;map a scale 1 hunger 99;map b scale 1 hunger 9;place p size 60 worth 1 on a b;likes a f 0;likes b f 9;");
    Texts.due("8 times 9 is 9 and 63", u.ration(0, 1), 8);
    lies(u, "b alone", 0, 8);
    u.give(1, 0, 3);
    Texts.due("with 3 in the trough", u.ration(0, 1), 5);
    u.give(1, 0, 6);
    Texts.due("it has enough", u.ration(0, 1), 0);
    HungryMaps z = Texts.house("food f 9;");
    Texts.due("no maps", z.ration(0, 0), 0);
    lies(z, "no maps");
    HungryMaps w = Texts.house("food f 9;map a scale 1 hunger 9;place p size 9 worth 1 on a;place q size 8 worth 1 on a;");
    w.year();
    Texts.due("a gone one gets no smaller", w.ration(0, 1), 0);
    Texts.due("a part spares nothing", w.ration(0, 2), 9);
  }

  private static void keep() {
    HungryMaps x = Texts.house("food f 13;food g 5;map a scale 1 hunger 6;map b scale 1 hunger 4;place p size 9 worth 1 on a;"
        + "place q size 9 worth 3 on b;");
    Texts.due("keep 0", x.keep(0, 0), 3 + 15);
    lies(x, "keep 0", 0, 0);
    Texts.due("keep 4", x.keep(0, 4), 3 + 27);
    lies(x, "keep 4", 0, 4);
    Texts.due("keep 5: q grows", x.keep(0, 5), 3 + 30);
    lies(x, "keep 5", 0, 5);
    Texts.due("keep 12", x.keep(0, 12), 3 + 51);
    Texts.due("keep 13", x.keep(0, 13), -1);
    lies(x, "keep 13");
    Texts.due("keep -1", x.keep(0, -1), -1);
    Texts.due("all of g", x.keep(1, 5), 33);
    Texts.due("more than all", x.keep(1, 6), -1);
    lies(x, "more than all");
    Texts.due("no such food", x.keep(2, 0), -1);
    Texts.due("food -1", x.keep(-1, 0), -1);
    Texts.due("no map", Texts.house("food f 9;").keep(0, 0), -1);
    HungryMaps y = Texts.house("food f 9;map a scale 1 hunger 5;map b scale 1 hunger 5;map c scale 1 hunger 5;place p size 9 worth 2 on a;"
        + "place q size 9 worth 2 on b;place r size 9 worth 0 on c;");
    Texts.due("alike", y.keep(0, 2), 20);
    lies(y, "of like ones the first", 0, 2, 0);
    HungryMaps z = Texts.house("food f 9;map a scale 1 hunger 0;place p size 60 worth 9 on a;");
    Texts.due("just so many", z.keep(0, 7), 540);
    lies(z, "just so many", 7);
  }

  private static void folds() {
    HungryMaps x = Texts.house("map a scale 1 hunger 1;map b scale 1 hunger 3;map c scale 1 hunger 9 folded;place p size 9 worth 1 on a;"
        + "place q size 9 worth 1 on b;place r size 1 worth 1 on c;");
    Texts.due("2 years", x.folds(2, 0), 0);
    Texts.due("2 years: which", x.folds(2, 1), 0);
    Texts.due("3 years", x.folds(3, 0), 1);
    Texts.due("3 years: b", x.folds(3, 1), 2);
    Texts.due("9 years", x.folds(9, 0), 2);
    Texts.due("9 years: a and b", x.folds(9, 1), 3);
    Texts.due("20 years", x.folds(20, 1), 3);
    Texts.due("21 years", x.folds(21, 0), -1);
    Texts.due("0 years", x.folds(0, 0), -1);
    Texts.due("what 2", x.folds(1, 2), -1);
    Texts.due("what -1", x.folds(1, -1), -1);
    HungryMaps y = Texts.house("map a scale 1 hunger 2;map b scale 1 hunger 2;map c scale 1 hunger 2;place p size 5 worth 1 on a b c;");
    Texts.due("one of three", y.folds(1, 0), 1);
    Texts.due("the least set", y.folds(1, 1), 1);
    y.fold(0);
    Texts.due("besides those that are", y.folds(2, 0), 1);
    Texts.due("b", y.folds(2, 1), 2);
    HungryMaps z = Texts.house("map a scale 1 hunger 1;map b scale 1 hunger 1;place p size 2 worth 1 on a;border a b;");
    Texts.due("a fold spares the other by its border", z.folds(1, 1), 1);
    HungryMaps w = Texts.house("map a scale 1 hunger 0;map b scale 1 hunger 0;map c scale 1 hunger 2;place p size 2 worth 1 on b;border a b;"
        + "place q size 4 worth 1 on c;");
    Texts.due("a, the less as bits, is folded for b", w.folds(1, 1), 1);
    w.year();
    Texts.due("what is gone is gone", w.folds(1, 1), 4);
  }

  private static void drawers() {
    HungryMaps x = Texts.house("map a scale 1 hunger 1;map b scale 1 hunger 1;map c scale 1 hunger 1;map d scale 1 hunger 1;"
        + "border a c;border c d;");
    Texts.due("one drawer", x.drawers(1), 0);
    lies(x, "behind 0");
    Texts.due("two", x.drawers(2), 4);
    lies(x, "the first", 0, 0, 1, 0);
    Texts.due("three", x.drawers(3), 3 * 2 * 2 * 3);
    Texts.due("four", x.drawers(4), 4 * 3 * 3 * 4);
    lies(x, "the first of four", 0, 0, 1, 0);
    Texts.due("one again", x.drawers(1), 0);
    lies(x, "behind 0, what lay there is gone");
    x.drawers(2);
    Texts.due("five", x.drawers(5), -1);
    Texts.due("none", x.drawers(0), -1);
    Texts.due("-1", x.drawers(-1), -1);
    lies(x, "what lay there stays", 0, 0, 1, 0);
    Texts.due("least", x.least(), 2);
    HungryMaps one = Texts.house("map a scale 1 hunger 1;");
    Texts.due("one map, one way", one.drawers(1), 1);
    lies(one, "one map", 0);
    String maps = "map a scale 1 hunger 1;map b scale 1 hunger 1;map c scale 1 hunger 1;map d scale 1 hunger 1;";
    HungryMaps y = Texts.house(maps + "border a b;border a c;border a d;border b c;border b d;border c d;");
    Texts.due("all with all, 3", y.drawers(3), 0);
    Texts.due("all with all, 4", y.drawers(4), 24);
    lies(y, "all with all", 0, 1, 2, 3);
    Texts.due("all with all, least", y.least(), 4);
    Texts.due("least lets lie", y.about(14), 4);
    Texts.due("no borders, least", Texts.house(maps).least(), 1);
    Texts.due("no borders, 4", Texts.house(maps).drawers(4), 256);
    HungryMaps z = new HungryMaps();
    Texts.due("no maps, least", z.least(), 0);
    Texts.due("no maps: one way", z.drawers(3), 1);
    lies(z, "no maps");
    y.fold(0);
    Texts.due("folded or not", y.drawers(4), 24);
  }

  private static void bites() {
    HungryMaps x = Texts.house("map a scale 1 hunger 1;map b scale 1 hunger 1;map c scale 1 hunger 1 in 1;border a b;border b c;border a c;");
    Texts.due("a and b", x.bites(), 1);
    x.put(2, 0);
    Texts.due("all", x.bites(), 3);
    x.fold(1);
    Texts.due("a and c", x.bites(), 1);
    x.fold(0);
    Texts.due("none", x.bites(), 0);
  }

  private static void odds(HungryMaps x, int place, int n, int upper, int lower) {
    Texts.due("odds " + place + " " + n + " upper", x.odds(place, n, 0), upper);
    Texts.due("odds " + place + " " + n + " lower", x.odds(place, n, 1), lower);
  }

  private static void odds() {
    // The first year is as it is now; p falls by 2 in each winter then, q in each summer.
    HungryMaps x = Texts.house("map a scale 1 hunger cold * 2;map b scale 1 hunger 2 - cold * 2;place p size 3 worth 1 on a;"
        + "place q size 5 worth 1 on b;");
    odds(x, 0, 0, 1, 1);
    odds(x, 0, 1, 1, 1);
    odds(x, 0, 2, 1, 1);
    odds(x, 0, 3, 3, 4);
    odds(x, 0, 4, 1, 2);
    odds(x, 0, 5, 5, 16);
    odds(x, 0, 6, 3, 16);
    odds(x, 0, 7, 7, 64);
    odds(x, 1, 2, 1, 1);
    odds(x, 1, 3, 3, 4);
    x.year();
    Texts.due("winter now", x.about(5), 1);
    odds(x, 0, 1, 1, 1);
    odds(x, 0, 2, 1, 2);
    x.year();
    Texts.due("odds 8", x.odds(0, 8, 0), -1);
    Texts.due("odds -1", x.odds(0, -1, 0), -1);
    Texts.due("part 2", x.odds(0, 1, 2), -1);
    Texts.due("part -1", x.odds(0, 1, -1), -1);
    Texts.due("no place", x.odds(2, 1, 0), -1);
    Texts.due("place -1", x.odds(-1, 1, 0), -1);
    HungryMaps y = Texts.house("map a scale 1 hunger 3;place p size 3 worth 1 on a;");
    odds(y, 0, 0, 1, 1);
    odds(y, 0, 1, 0, 1);
    odds(y, 0, 7, 0, 1);
    y.year();
    odds(y, 0, 0, 0, 1);
  }

  private static void lying() {
    HungryMaps x = Texts.house("food f 9;map a scale 1 hunger 3;map b scale 1 hunger 3;place p size 5 worth 1 on b;border a b;");
    lies(x, "at first");
    x.keep(0, 2);
    lies(x, "keep", 0, 2);
    x.drawers(2);
    lies(x, "drawers", 0, 1);
    x.year();
    x.undo();
    x.land(3);
    lies(x, "still", 0, 1);
    Texts.due("ration with the border", x.ration(0, 1), 5);
    lies(x, "ration", 0, 5);
    Texts.due("lies far off", x.lies(Integer.MAX_VALUE), -1);
    Texts.due("lies far below", x.lies(Integer.MIN_VALUE), -1);
  }

  private static void nothingIsDone() {
    HungryMaps x = Texts.house("food f 9;map a scale 1 hunger cold * 3 + 2;map b scale 1 hunger 3;place p size 9 worth 1 on a b;border a b;draw 5;");
    x.give(0, 0, 1);
    x.will(0, 9);
    x.doom(0);
    x.bitten();
    x.land(9);
    x.bitesIn(0);
    x.ration(0, 1);
    x.keep(0, 4);
    x.folds(3, 0);
    x.drawers(4);
    x.odds(0, 5, 0);
    Texts.due("year", x.about(4), 0);
    Texts.due("winter", x.about(5), 0);
    Texts.due("seed", x.about(6), 5);
    Texts.due("folded", x.about(7), 0);
    Texts.due("acts", x.about(8), 1);
    Texts.due("trough", x.trough(0, 0), 1);
    Texts.due("other trough", x.trough(1, 0), 0);
    Texts.due("store", x.store(0), 8);
    Texts.due("size", x.place(0, 0), 9);
    Texts.due("holes", x.place(0, 2), 0);
    Texts.due("eaten", x.map(0, 3), 0);
    Texts.due("drawer", x.map(1, 5), 0);
  }
}
