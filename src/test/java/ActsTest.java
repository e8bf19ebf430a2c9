/** Promises 6 to 17: what stands in the house, and the acts. */
public final class ActsTest {
  public static void main(String[] args) {
    asTold();
    hungers();
    tastes();
    giving();
    folding();
    putting();
    biting();
    growing();
    winters();
    undoing();
    keptActs();
    yearsEnd();
    Texts.finish("ActsTest");
  }

  private static void asTold() {
    HungryMaps x = Texts.house("food hay 20;food fish 0;map a scale 3 hunger 4 in 2;map b scale 9 hunger 5 folded;map c scale 1 hunger 1;"
        + "place p size 60 worth 9 on c a;place q size 1 worth 0 on b;likes b fish 0;likes c hay 9;border c a;border b c;");
    Texts.due("store 0", x.store(0), 20);
    Texts.due("store 1", x.store(1), 0);
    Texts.due("store 2", x.store(2), -1);
    Texts.due("store -1", x.store(-1), -1);
    int[][] maps = {{3, 4, 0, 0, 0, 2, 1, 4}, {9, 0, 0, 0, 1, 0, 2, 4}, {1, 1, 0, 0, 0, 0, 1, 3}};
    for (int m = 0; m < 3; m++) for (int what = 0; what < 8; what++) Texts.due("map " + m + " " + what, x.map(m, what), maps[m][what]);
    Texts.due("map 3", x.map(3, 0), -1);
    Texts.due("map -1", x.map(-1, 0), -1);
    Texts.due("map what 8", x.map(0, 8), -1);
    Texts.due("map what -1", x.map(0, -1), -1);
    int[][] places = {{60, 9, 0, 5}, {1, 0, 0, 2}};
    for (int p = 0; p < 2; p++) for (int what = 0; what < 4; what++) Texts.due("place " + p + " " + what, x.place(p, what), places[p][what]);
    Texts.due("place 2", x.place(2, 0), -1);
    Texts.due("place -1", x.place(-1, 0), -1);
    Texts.due("place what 4", x.place(0, 4), -1);
    Texts.due("place what -1", x.place(0, -1), -1);
    int[][] likes = {{1, 1}, {1, 0}, {9, 1}};
    for (int m = 0; m < 3; m++) for (int f = 0; f < 2; f++) Texts.due("likes " + m + " " + f, x.likes(m, f), likes[m][f]);
    Texts.due("likes of no map", x.likes(3, 0), -1);
    Texts.due("likes of no food", x.likes(0, 2), -1);
    Texts.due("likes -1 0", x.likes(-1, 0), -1);
    Texts.due("likes 0 -1", x.likes(0, -1), -1);
    Texts.due("trough", x.trough(2, 1), 0);
    Texts.due("trough of no map", x.trough(3, 0), -1);
    Texts.due("trough of no food", x.trough(0, 2), -1);
    Texts.due("trough 0 -1", x.trough(0, -1), -1);
    Texts.due("trough -1 0", x.trough(-1, 0), -1);
  }

  private static void hungers() {
    HungryMaps x = Texts.house("map a scale 3 hunger 98;map b scale 3 hunger year * 10 + eaten + cold * 5 + 1;map c scale 4 hunger 0 - 5;"
        + "place p size 50 worth 1 on b;border a b;border b c;border a c;draw 7;");
    Texts.due("98 and 4, 99 at most", x.map(0, 1), 99);
    Texts.due("1 and 4", x.map(1, 1), 5);
    Texts.due("0 and 4", x.map(2, 1), 4);
    x.put(0, 1);
    Texts.due("one border less", x.map(1, 1), 3);
    Texts.due("98 and none", x.map(0, 1), 98);
    x.fold(2);
    Texts.due("a folded one does not bite", x.map(1, 1), 1);
    Texts.due("a folded one fasts", x.map(2, 1), 0);
    Texts.due("year", x.year(), 1);
    // draw 7 comes to 30: winter.
    Texts.due("10 * 1 + 1 bitten + 5 + 1", x.map(1, 1), 17);
  }

  private static void tastes() {
    HungryMaps x = Texts.house("map a scale 3 hunger 2;map b scale 5 hunger 0;place p size 6 worth 4 on a;place q size 5 worth 2 on a;"
        + "taste size * 1000 + worth * 100 + holes * 10 + scale + eaten * 7 + cold * 9000 + year * 5;draw 7;");
    Texts.due("taste p a", x.taste(0, 0), 6403);
    Texts.due("taste q a", x.taste(1, 0), 5203);
    Texts.due("taste for a map it is not on", x.taste(0, 1), 6405);
    Texts.due("no such place", x.taste(2, 0), -1000000);
    Texts.due("no such map", x.taste(0, 2), -1000000);
    Texts.due("place -1", x.taste(-1, 0), -1000000);
    Texts.due("map -1", x.taste(0, -1), -1000000);
    x.year();
    Texts.due("p bitten once, in winter", x.taste(0, 0), 4000 + 400 + 10 + 3 + 14 + 9000 + 5);
    Texts.due("for b nothing is eaten", x.taste(0, 1), 4000 + 400 + 10 + 5 + 9000 + 5);
    Texts.due("taste is size if not told", Texts.house("map a scale 1 hunger 1;place p size 9 worth 1 on a;").taste(0, 0), 9);
    HungryMaps y = Texts.house("map a scale 1 hunger 1;place p size 9 worth 1 on a;taste 0 - size;");
    Texts.due("a taste below 0", y.taste(0, 0), -9);
  }

  private static void giving() {
    HungryMaps x = Texts.house("food f 99;food g 3;map a scale 1 hunger 9;likes a f 2;");
    Texts.due("give 0", x.give(0, 0, 0), -1);
    Texts.due("give below 0", x.give(0, 0, -1), -1);
    Texts.due("give 100", x.give(0, 0, 100), -1);
    Texts.due("give to none", x.give(1, 0, 1), -1);
    Texts.due("give to -1", x.give(-1, 0, 1), -1);
    Texts.due("give of none", x.give(0, 2, 1), -1);
    Texts.due("give of -1", x.give(0, -1, 1), -1);
    Texts.due("give more than there is", x.give(0, 1, 4), -1);
    Texts.due("no acts", x.about(8), 0);
    Texts.due("give all", x.give(0, 1, 3), 0);
    Texts.due("give 1", x.give(0, 0, 1), 98);
    Texts.due("give 98", x.give(0, 0, 98), 0);
    Texts.due("trough f", x.trough(0, 0), 99);
    Texts.due("trough g", x.trough(0, 1), 3);
    Texts.due("given", x.map(0, 2), 201);
    Texts.due("acts", x.about(8), 3);
    Texts.due("store", x.store(0), 0);
    Texts.due("99 at once", Texts.house("food f 99;map a scale 1 hunger 9;").give(0, 0, 99), 0);
  }

  private static void folding() {
    HungryMaps x = Texts.house("map a scale 1 hunger 9;map b scale 1 hunger 9 folded;");
    Texts.due("folded as told", x.about(7), 2);
    Texts.due("fold a", x.fold(0), 1);
    Texts.due("both", x.about(7), 3);
    Texts.due("unfold b", x.fold(1), 0);
    Texts.due("a", x.about(7), 1);
    Texts.due("fold none", x.fold(2), -1);
    Texts.due("fold -1", x.fold(-1), -1);
    Texts.due("acts", x.about(8), 2);
  }

  private static void putting() {
    HungryMaps x = Texts.house("map a scale 1 hunger 9 in 2;");
    Texts.due("put 3", x.put(0, 3), 2);
    Texts.due("put 0", x.put(0, 0), 3);
    Texts.due("put 0 again", x.put(0, 0), 0);
    Texts.due("put 4", x.put(0, 4), -1);
    Texts.due("put -1", x.put(0, -1), -1);
    Texts.due("put none", x.put(1, 0), -1);
    Texts.due("acts", x.about(8), 3);
    Texts.due("drawer", x.map(0, 5), 0);
  }

  private static void biting() {
    HungryMaps x = Texts.house("map a scale 1 hunger 12;map b scale 1 hunger 3;place p size 5 worth 1 on a;place q size 9 worth 1 on a b;"
        + "place r size 9 worth 1 on a;place s size 2 worth 1 on b;");
    // a bites q (9, the first of like ones), then 3 of r; b finds s alone.
    Texts.due("year", x.year(), 3);
    int[] sizes = {5, 0, 6, 0}, holes = {0, 1, 1, 1};
    for (int p = 0; p < 4; p++) {
      Texts.due("size " + p, x.place(p, 0), sizes[p]);
      Texts.due("holes " + p, x.place(p, 2), holes[p]);
    }
    Texts.due("a bit off", x.map(0, 3), 12);
    Texts.due("b bit off what was there", x.map(1, 3), 2);
    Texts.due("the next year", x.year(), 2);
    Texts.due("a bit off all", x.map(0, 3), 23);
    Texts.due("b bit off nothing more", x.map(1, 3), 2);
    Texts.due("all are gone", x.gone(), 15);
    Texts.due("a year of none", x.year(), 0);
    HungryMaps y = Texts.house("map a scale 1 hunger 4;place p size 3 worth 1 on a;place q size 9 worth 2 on a;place r size 9 worth 1 on a;"
        + "taste 10 * (eaten < 3) * (worth = 1) * (size < 5) + worth + eaten * (size = 9) * (worth = 1);");
    // First p (taste 11), then, with 3 eaten, r (1 + 3) ahead of q (2).
    Texts.due("tastes as they are between bites", y.year(), 2);
    Texts.due("p is gone", y.place(0, 0), 0);
    Texts.due("q is whole", y.place(1, 0), 9);
    Texts.due("r is bitten", y.place(2, 0), 8);
    HungryMaps z = Texts.house("food f 9;map a scale 1 hunger 7;place p size 30 worth 1 on a;likes a f 3;");
    z.give(0, 0, 2);
    Texts.due("bites for the rest", z.year(), 1);
    Texts.due("one less", z.place(0, 0), 29);
    Texts.due("trough is empty then", z.trough(0, 0), 0);
    z.give(0, 0, 1);
    z.year();
    Texts.due("four less", z.place(0, 0), 25);
  }

  private static void growing() {
    HungryMaps x = Texts.house("food f 99;map a scale 1 hunger 4;map b scale 1 hunger 2;place p size 8 worth 1 on a b;"
        + "place q size 4 worth 1 on a;place r size 4 worth 1 on a;likes a f 5;likes b f 9;");
    x.give(0, 0, 1);
    Texts.due("over", x.over(0), 1);
    Texts.due("p gets smaller by b", x.year(), 1);
    Texts.due("the first of least size is bigger", x.place(1, 0), 5);
    Texts.due("the other is not", x.place(2, 0), 4);
    x.give(0, 0, 40);
    x.fold(1);
    Texts.due("none smaller", x.year(), 0);
    Texts.due("60 at most", x.place(2, 0), 60);
    x.give(1, 0, 2);
    Texts.due("a folded map has all over", x.over(1), 18);
    x.fold(0);
    x.year();
    Texts.due("p is bigger", x.place(0, 0), 24);
    HungryMaps y = Texts.house("food f 9;map a scale 1 hunger 6;map b scale 1 hunger 0;place p size 6 worth 1 on a b;place q size 3 worth 1 on b;"
        + "taste 1;");
    y.give(1, 0, 5);
    // a bites p away, b gives 5 to p, gone as it is: it gets smaller, but by 1 alone.
    Texts.due("a gone one grows again", y.year(), 1);
    Texts.due("p", y.place(0, 0), 5);
    y.give(1, 0, 4);
    y.year();
    Texts.due("p is bitten, then 4", y.place(0, 0), 4);
    HungryMaps z = Texts.house("food f 9;map a scale 1 hunger 2;map b scale 1 hunger 0;place p size 6 worth 1 on a b;");
    z.give(1, 0, 2);
    Texts.due("bitten and as big again: not smaller", z.year(), 0);
    Texts.due("but a hole", z.place(0, 2), 1);
    z.give(1, 0, 3);
    Texts.due("bigger", z.year(), 0);
    Texts.due("by 1", z.place(0, 0), 7);
    HungryMaps none = Texts.house("food f 9;map a scale 1 hunger 2;");
    none.give(0, 0, 9);
    Texts.due("a map without places", none.year(), 0);
  }

  private static void winters() {
    HungryMaps x = Texts.house("draw 999;winter;");
    int seed = 999;
    for (int i = 1; i <= 30; i++) {
      x.year();
      seed = (seed * 137 + 71) % 1000;
      Texts.due("seed", x.about(6), seed);
      Texts.due("winter", x.about(5), seed / 10 % 2);
      Texts.due("year", x.about(4), i);
    }
  }

  private static void undoing() {
    HungryMaps x = Texts.house("food f 9;map a scale 1 hunger 3 in 1;place p size 9 worth 1 on a;");
    x.give(0, 0, 1);
    x.put(0, 2);
    x.fold(0);
    x.fold(0);
    x.year();
    Texts.due("five acts", x.about(8), 5);
    Texts.due("undo the year", x.undo(), true);
    Texts.due("year", x.about(4), 0);
    Texts.due("size", x.place(0, 0), 9);
    Texts.due("holes", x.place(0, 2), 0);
    Texts.due("bitten off", x.map(0, 3), 0);
    Texts.due("trough", x.trough(0, 0), 1);
    Texts.due("seed", x.about(6), 0);
    Texts.due("winter", x.about(5), 0);
    Texts.due("redo the year", x.redo(), true);
    Texts.due("size again", x.place(0, 0), 7);
    Texts.due("seed again", x.about(6), 71);
    Texts.due("nothing to redo", x.redo(), false);
    x.undo();
    x.undo();
    Texts.due("folded again", x.about(7), 1);
    x.undo();
    Texts.due("not folded", x.about(7), 0);
    x.undo();
    Texts.due("drawer", x.map(0, 5), 1);
    Texts.due("to be undone", x.about(8), 1);
    Texts.due("to be redone", x.about(9), 4);
    Texts.due("undo the first", x.undo(), true);
    Texts.due("store", x.store(0), 9);
    Texts.due("undo no more", x.undo(), false);
    Texts.due("redo the first", x.redo(), true);
    Texts.due("give what is not there", x.give(0, 0, 99), -1);
    Texts.due("no act, so redo stays", x.about(9), 4);
    x.put(0, 1);
    Texts.due("an act ends redo", x.redo(), false);
    Texts.due("none to redo", x.about(9), 0);
    Texts.due("two to undo", x.about(8), 2);
  }

  private static void keptActs() {
    HungryMaps x = Texts.house("map a scale 1 hunger 3;");
    for (int i = 0; i < 45; i++) x.put(0, i % 4);
    Texts.due("40 are kept", x.about(8), 40);
    for (int i = 0; i < 40; i++) Texts.due("undo " + i, x.undo(), true);
    Texts.due("no more", x.undo(), false);
    Texts.due("the oldest went", x.map(0, 5), 0);
    Texts.due("40 to redo", x.about(9), 40);
    for (int i = 5; i < 45; i++) {
      Texts.due("redo " + i, x.redo(), true);
      Texts.due("drawer", x.map(0, 5), i % 4);
    }
    Texts.due("no more to redo", x.redo(), false);
    x.undo();
    x.undo();
    x.put(0, 3);
    Texts.due("39 to undo", x.about(8), 39);
  }

  private static void yearsEnd() {
    HungryMaps x = new HungryMaps();
    for (int i = 0; i < 999; i++) x.year();
    Texts.due("999 years", x.about(4), 999);
    Texts.due("no year behind them", x.year(), -1);
    Texts.due("still", x.about(4), 999);
    x.undo();
    Texts.due("one can be again", x.year(), 0);
  }
}
