/** Counts the answers that are not as due, and tells them. */
final class Due {
  static final int BAD = -1000000001, NO = -1000000002, FULL = -1000000003, NONE = -1000000005;
  static final int NOTHING = -1000000011, KIND = -1000000012, INDEX = -1000000013, SIZE = -1000000014;

  private final String test;
  private String promise = "";
  private int wrong = 0, right = 0;

  Due(String test) { this.test = test; }

  void promise(int number, String name) { promise = "promise " + number + ", " + name + ": "; }

  /** What of the document is held to. */
  void sentence(String words) { promise = "\"" + words + "\": "; }

  void due(String call, long got, long want) {
    if (got == want) { right++; return; }
    wrong++;
    System.out.println(test + ": " + promise + call + " answered " + got + ", due is " + want);
  }

  /** Of a row of answers, told as one text. */
  void due(String call, String got, String want) {
    if (got.equals(want)) { right++; return; }
    wrong++;
    System.out.println(test + ": " + promise + call + " answered " + got + ", due is " + want);
  }

  void end() {
    System.out.println(test + ": " + right + " answers as due, " + wrong + " not");
    if (wrong != 0) System.exit(1);
  }

  // ---- what several tests need

  /** RAW of marks that are told from place 0 on, one sign each. */
  static int raw(String marks) {
    int raw = 0;
    for (int p = 0; p < marks.length(); p++) raw |= marks.charAt(p) - '0' << 2 * p;
    return raw;
  }

  static int set(int... numbers) {
    int set = 0;
    for (int n : numbers) set |= 1 << n;
    return set;
  }

  static String says(StoneSheets s, int rubbing) {
    StringBuilder row = new StringBuilder();
    for (int p = 0; p < s.told(rubbing, 2); p++) row.append(s.says(rubbing, p));
    return row.toString();
  }

  /** A z from which the TIDES that come next are at these places; places go by 4096 z's, so that not every row of them comes. */
  static int seedFor(int... places) {
    for (int z = 0; z < 4096; z++) {
      int at = z, n = 0;
      while (n < places.length) {
        at = at * 1103515245 + 12345;
        if ((at >>> 8) % 16 != places[n]) break;
        n++;
      }
      if (n == places.length) return z;
    }
    throw new IllegalArgumentException("no z gives " + java.util.Arrays.toString(places));
  }

  /** One RUBBING more, laid there. */
  static int laid(StoneSheets s, int kind, String marks, int place) {
    int k = s.rubbing(kind, raw(marks), marks.length());
    s.set(k, 4, place);
    return k;
  }

  /** Feeds a text, byte by byte, and trims THE TAPE to it. */
  static void feed(StoneSheets s, String text) {
    s.trim(0);
    for (int i = 0; i < text.length(); i += 12) {
      int[] three = new int[3];
      for (int j = 0; j < 12 && i + j < text.length(); j++) three[j / 4] |= text.charAt(i + j) << 8 * (3 - j % 4);
      s.feed(three[0], three[1], three[2]);
    }
    s.trim(text.length());
  }

  static int text(StoneSheets s, String text) {
    feed(s, text);
    return s.text();
  }
}
