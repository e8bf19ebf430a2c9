import java.nio.charset.StandardCharsets;

/** Feeds texts and counts answers that are not as due. */
final class Texts {
  private static int wrong = 0;
  private static int checked = 0;
  private static String sentence = "";

  private Texts() { }

  /** The text's bytes as the numbers that feed takes, filled up with blanks. */
  static int[] numbers(String text) {
    byte[] bytes = text.getBytes(StandardCharsets.ISO_8859_1);
    int[] all = new int[(bytes.length + 19) / 20 * 5];
    for (int i = 0; i < all.length * 4; i++) {
      int b = i < bytes.length ? bytes[i] & 255 : 32;
      all[i / 4] = all[i / 4] << 8 | b;
    }
    return all;
  }

  static void feed(HungryMaps x, String text) {
    int[] n = numbers(text);
    for (int i = 0; i < n.length; i += 5) x.feed(n[i], n[i + 1], n[i + 2], n[i + 3], n[i + 4]);
    if (text.length() <= x.about(12)) x.end(text.length());
  }

  static HungryMaps house(String text) {
    HungryMaps x = new HungryMaps();
    feed(x, text);
    if (x.house() < 0) due("house of '" + text + "': fault " + x.fault(0) + " at " + x.fault(1), -1, 0);
    return x;
  }

  /** The words of the document that the answers from here on are due by. */
  static void by(String words) { sentence = words + ": "; }

  static void due(String call, long got, long want) {
    checked++;
    if (got != want) {
      wrong++;
      if (wrong <= 50) System.out.println(sentence + call + " answered " + got + ", due is " + want);
    }
  }

  static void due(String call, boolean got, boolean want) { due(call, got ? 1 : 0, want ? 1 : 0); }

  /** The fault of a text and its place; 0 and -1 for a good one. */
  static void fault(String text, int kind, int place) {
    HungryMaps x = new HungryMaps();
    feed(x, text);
    int maps = x.house();
    due("house of '" + text + "'", maps < 0, kind != 0);
    due("fault of '" + text + "'", x.fault(0), kind);
    due("its place in '" + text + "'", x.fault(1), place);
  }

  static void finish(String test) {
    System.out.println(test + ": " + checked + " answers, " + wrong + " not as due");
    if (wrong != 0) System.exit(1);
  }
}
