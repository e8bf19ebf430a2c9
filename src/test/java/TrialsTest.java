/** Promises 35 to 43: trials, images, and what is told about the house. */
public final class TrialsTest {
  private static final String TWO = "food f 9;food g 9;map a scale 1 hunger 1;";

  public static void main(String[] args) {
    telling();
    untelling();
    times();
    fitting();
    sure();
    asking();
    images();
    about();
    Texts.finish("TrialsTest");
  }

  private static void telling() {
    HungryMaps x = Texts.house(TWO);
    Texts.due("a below 0", x.trial(-1, 0, 0, 1, true), -1);
    Texts.due("a 10", x.trial(10, 0, 0, 1, true), -1);
    Texts.due("b below 0", x.trial(0, -1, 0, 1, true), -1);
    Texts.due("b 10", x.trial(0, 10, 0, 1, true), -1);
    Texts.due("c below 0", x.trial(0, 0, -1, 1, true), -1);
    Texts.due("c 10", x.trial(0, 0, 10, 1, true), -1);
    Texts.due("hunger 0", x.trial(0, 0, 0, 0, true), -1);
    Texts.due("hunger 100", x.trial(0, 0, 0, 100, true), -1);
    Texts.due("none told", x.about(10), 0);
    Texts.due("the first", x.trial(0, 0, 0, 1, false), 0);
    Texts.due("the second", x.trial(9, 9, 9, 99, false), 1);
    Texts.due("the third is none yet", x.untell(2), false);
    x.untell(1);
    for (int i = 2; i < 30; i++) Texts.due("trial " + i, x.trial(1, 1, 1, 99, false), i);
    Texts.due("there are 30", x.trial(1, 1, 1, 99, false), -1);
    Texts.due("told", x.about(10), 30);
  }

  private static void untelling() {
    HungryMaps x = Texts.house(TWO);
    Texts.due("none such", x.untell(0), false);
    x.trial(1, 0, 0, 3, true);
    Texts.due("-1", x.untell(-1), false);
    Texts.due("1", x.untell(1), false);
    Texts.due("0", x.untell(0), true);
    Texts.due("0 again", x.untell(0), false);
    Texts.due("told and untold at once never counts", x.fit(0), 36);
    Texts.due("nor later", x.fit(9), 36);
    Texts.due("it is still there", x.about(10), 1);
  }

  private static void times() {
    HungryMaps x = Texts.house(TWO);
    Texts.due("later 0", x.later(0), 0);
    Texts.due("later -1", x.later(-1), -1);
    Texts.due("later 1001", x.later(1001), -1);
    Texts.due("later 2", x.later(2), 2);
    x.trial(1, 0, 0, 3, true);
    x.later(2);
    x.trial(0, 1, 0, 3, false);
    x.later(2);
    x.untell(0);
    Texts.due("at 1", x.fit(1), 36);
    Texts.due("at 2", x.fit(2), 18);
    Texts.due("at 3", x.fit(3), 18);
    Texts.due("at 4", x.fit(4), 9);
    Texts.due("at 5", x.fit(5), 9);
    Texts.due("at 6", x.fit(6), 18);
    Texts.due("at the end", x.fit(Integer.MAX_VALUE), 18);
    Texts.due("below 0", x.fit(-1), 36);
    Texts.due("sure at 5", x.sure(1, 5), -2);
    x.later(4);
    for (int i = 1; i < 100; i++) x.later(1000);
    Texts.due("99010", x.about(11), 99010);
    Texts.due("up to the end", x.later(990), 100000);
    Texts.due("no later", x.later(1), -1);
    Texts.due("but 0", x.later(0), 100000);
  }

  private static void fitting() {
    HungryMaps x = new HungryMaps();
    Texts.due("without foods", x.fit(0), 1);
    x.trial(9, 9, 9, 1, false);
    Texts.due("not against it", x.fit(0), 1);
    x.trial(9, 9, 9, 1, true);
    Texts.due("against it", x.fit(0), 0);
    Texts.due("one food", Texts.house("food f 1;").fit(0), 6);
    Texts.due("three foods", Texts.house("food f 1;food g 1;food h 1;").fit(0), 216);
    HungryMaps y = Texts.house("food f 1;food g 1;food h 1;");
    y.trial(1, 1, 1, 15, true);
    Texts.due("all 5", y.fit(0), 1);
    Texts.due("sure", y.sure(2, 0), 5);
    HungryMaps z = Texts.house("food f 1;");
    z.trial(2, 9, 9, 6, true);
    Texts.due("what is no food counts nothing: 3, 4, 5", z.fit(0), 3);
    z.trial(2, 0, 0, 9, false);
    Texts.due("3, 4", z.fit(0), 2);
    z.trial(1, 0, 0, 4, true);
    Texts.due("4", z.sure(0, 0), 4);
    z.trial(1, 0, 0, 4, false);
    Texts.due("none", z.fit(0), 0);
  }

  private static void sure() {
    HungryMaps x = Texts.house(TWO);
    Texts.due("not the same", x.sure(0, 0), -2);
    Texts.due("no such food", x.sure(2, 0), -1);
    Texts.due("-1", x.sure(-1, 0), -1);
    x.trial(1, 0, 0, 1, false);
    Texts.due("0", x.sure(0, 0), 0);
    Texts.due("the other", x.sure(1, 0), -2);
    x.trial(1, 0, 0, 1, true);
    Texts.due("none fits", x.sure(0, 0), -1);
    Texts.due("none fitted at -1", x.sure(0, -1), -2);
  }

  private static void asking() {
    HungryMaps x = Texts.house(TWO);
    // One of f with hunger 3: 18 of 36 either way.
    Texts.due("hunger 3", x.ask(3, 0, 0), 1);
    Texts.due("left", x.ask(3, 1, 0), 18);
    // 1 * 5 is too little for 6; 2 of f: 3, 4, 5 are enough.
    Texts.due("hunger 6", x.ask(6, 0, 0), 2);
    Texts.due("hunger 99: nothing is told by it", x.ask(99, 0, 0), 1);
    Texts.due("all are left", x.ask(99, 1, 0), 36);
    // 9 * 5 = 45: only 5 is enough.
    Texts.due("hunger 45", x.ask(45, 0, 0), 9);
    Texts.due("hunger 45 left", x.ask(45, 1, 0), 30);
    Texts.due("hunger 46: 9 are not enough", x.ask(46, 0, 0), 1);
    Texts.due("hunger 46 left", x.ask(46, 1, 0), 36);
    Texts.due("hunger 0", x.ask(0, 0, 0), -1);
    Texts.due("hunger 100", x.ask(100, 0, 0), -1);
    Texts.due("what 2", x.ask(1, 2, 0), -1);
    Texts.due("what -1", x.ask(1, -1, 0), -1);
    x.trial(1, 0, 0, 1, false);
    Texts.due("f is known: ask for g", x.ask(3, 0, 0), 11);
    Texts.due("as known before", x.ask(3, 0, -1), 1);
    Texts.due("3 are left", x.ask(3, 1, 0), 3);
    x.trial(1, 0, 0, 1, true);
    Texts.due("none fits", x.ask(3, 0, 0), -1);
    Texts.due("none fits: left", x.ask(3, 1, 0), -1);
    Texts.due("no foods", new HungryMaps().ask(3, 0, 0), -1);
    Texts.due("no foods: left", new HungryMaps().ask(3, 1, 0), -1);
  }

  private static void images() {
    HungryMaps x = Texts.house("food f 9;map a scale 1 hunger 2 in 3;place p size 9 worth 1 on a;draw 7;");
    Texts.due("box 3", x.image(3), -1);
    Texts.due("box -1", x.image(-1), -1);
    Texts.due("back of none", x.back(0), -1);
    Texts.due("back 3", x.back(3), -1);
    Texts.due("back -1", x.back(-1), -1);
    x.year();
    x.give(0, 0, 4);
    x.fold(0);
    Texts.due("image 2", x.image(2), 1);
    x.put(0, 1);
    x.year();
    x.fold(0);
    x.year();
    Texts.due("image 0", x.image(0), 3);
    x.undo();
    Texts.due("back 2", x.back(2), 1);
    Texts.due("no acts", x.about(8), 0);
    Texts.due("none to redo", x.about(9), 0);
    Texts.due("undo", x.undo(), false);
    int[] now = {x.store(0), x.trough(0, 0), x.place(0, 0), x.place(0, 2), x.map(0, 3), x.about(7), x.map(0, 5), x.about(4), x.about(5), x.about(6)};
    int[] want = {5, 4, 7, 1, 2, 1, 3, 1, 1, 30};
    for (int i = 0; i < want.length; i++) Texts.due("kept " + i, now[i], want[i]);
    x.give(0, 0, 5);
    Texts.due("an act from there", x.about(8), 1);
    Texts.due("back 2 again", x.back(2), 1);
    Texts.due("store as kept", x.store(0), 5);
    Texts.due("back 0", x.back(0), 3);
    Texts.due("drawer", x.map(0, 5), 1);
    Texts.due("image over image", x.image(2), 3);
    Texts.due("back of it", x.back(2), 3);
    Texts.due("box 1 is empty", x.back(1), -1);
  }

  private static void about() {
    HungryMaps x = Texts.house("food f 9;food g 9;map a scale 1 hunger 2;map b scale 1 hunger 2 folded;map c scale 1 hunger 1 + (2);"
        + "place p size 9 worth 1 on a;border a b;winter;draw 21;");
    x.trial(1, 1, 1, 1, true);
    x.later(4);
    x.put(0, 1);
    x.put(0, 2);
    x.undo();
    x.drawers(2);
    x.feed(0, 0, 0, 0, 0);
    int[] want = {3, 2, 1, 1, 0, 1, 21, 2, 1, 1, 1, 4, 20, 5, 3};
    for (int what = 0; what < 15; what++) Texts.due("about " + what, x.about(what), want[what]);
    Texts.due("about 15", x.about(15), -1);
    Texts.due("about -1", x.about(-1), -1);
    x.year();
    Texts.due("the year", x.about(4), 1);
  }
}
