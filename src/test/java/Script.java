import java.util.Map;

/**
 * Rows of calls on one object, a line each, with the answer that is due: "rubbing 0 27 4 => 0" (without one, any will do).
 * "tape ..." puts these bytes on THE TAPE, "text ..." has them read too, "says* k" is all that a RUBBING SAYS, "carved*" all MARKS,
 * "row* k" the places of a SHEET (by SLOT 4); "name a b x5" is that call five times.
 */
final class Script {
  private static final Map<String, Integer> NAMES = Map.of("BAD", Due.BAD, "NO", Due.NO, "FULL", Due.FULL, "NONE", Due.NONE,
      "NOTHING", Due.NOTHING, "KIND", Due.KIND, "INDEX", Due.INDEX, "SIZE", Due.SIZE, "MIN", Integer.MIN_VALUE, "MAX", Integer.MAX_VALUE);

  private final Due d;
  final Calls calls;

  Script(Due d, Calls calls) {
    this.d = d;
    this.calls = calls;
  }

  /** A new object, and what is called on it. */
  static Script of(Due d, String rows) {
    return new Script(d, new Caller(new StoneSheets())).run(rows);
  }

  Script run(String rows) {
    for (String line : rows.split("\n")) if (!line.isBlank()) row(line.strip());
    if (calls instanceof Caller && ((Caller) calls).calls > 512) d.due("calls of one object, up to 512", ((Caller) calls).calls, 512);
    return this;
  }

  private void row(String line) {
    int at = line.lastIndexOf(" => ");
    String call = at < 0 ? line : line.substring(0, at);
    String want = at < 0 ? null : line.substring(at + 4);
    String got = answer(call);
    if (want == null) return;
    boolean number = NAMES.containsKey(want);
    d.due(call, got, number ? String.valueOf(NAMES.get(want)) : want);
  }

  private String answer(String call) {
    if (call.startsWith("tape ")) return String.valueOf(tape(calls, call.substring(5)));
    if (call.startsWith("text ")) { tape(calls, call.substring(5)); return String.valueOf(calls.call("text")); }
    String[] words = call.split(" +");
    if (words[0].equals("carved*")) return told("carved", 16);
    if (words[0].equals("says*")) return told("says", calls.call("told", number(words[1]), 2), number(words[1]));
    if (words[0].equals("row*")) return places(number(words[1]));
    int times = 1, n = words.length - 1;
    if (words[n].matches("x\\d+")) { times = Integer.parseInt(words[n].substring(1)); n--; }
    int[] a = new int[n];
    for (int i = 0; i < n; i++) a[i] = number(words[i + 1]);
    int answer = 0;
    for (int i = 0; i < times; i++) answer = calls.call(words[0], a);
    return String.valueOf(answer);
  }

  static int number(String word) {
    Integer named = NAMES.get(word);
    return named != null ? named : Integer.parseInt(word);
  }

  private String told(String name, int n, int... first) {
    StringBuilder row = new StringBuilder();
    for (int p = 0; p < n; p++) row.append(first.length == 0 ? calls.call(name, p) : calls.call(name, first[0], p));
    return row.toString();
  }

  private String places(int sheet) {
    int held = calls.call("lay", 4, 2, sheet);
    if (held < 0) return "MISSING";
    StringBuilder row = new StringBuilder();
    for (int p = 0; p < 30; p++) {
      int v = calls.call("item", 4, p);
      if (v == Due.INDEX) break;
      row.append(p > 0 ? " " : "").append(v == Due.KIND ? "-" : String.valueOf(v));
    }
    return row.toString();
  }

  /** Bytes, one a sign of the text, are all that is on THE TAPE then: how many. */
  static int tape(Calls c, String bytes) {
    c.call("trim", 0);
    for (int i = 0; i < bytes.length(); i += 12) {
      int[] three = new int[3];
      for (int j = 0; j < 12 && i + j < bytes.length(); j++) three[j / 4] |= bytes.charAt(i + j) << 8 * (3 - j % 4);
      c.call("feed", three);
    }
    return c.call("trim", bytes.length());
  }
}
