/** All that an object tells of itself, as one text; telling it uses the object up. */
final class Whole {
  private final Calls c;
  private final StringBuilder out = new StringBuilder();

  private Whole(Calls c) { this.c = c; }

  /** The numbers that wait are told by a check of so many TIDES. */
  static String of(Calls c, int tides) {
    Whole w = new Whole(c);
    w.state("now");
    w.tell("waiting, tape", c.call("count", 4), c.call("count", 5));
    for (int k = 0; k < 5; k++) w.slot(k);
    for (int k = 0; k < 4; k++) w.sheet(k);
    w.tell("the tape", c.call("text"), c.call("count", 3), c.call("fee"), c.call("told", 0, 7), c.call("fine", 0));
    w.tell("check", c.call("check", tides));
    int many = c.call("back");
    w.tell("back", many);
    if (many != Due.NO) w.state("image");
    return w.out.toString();
  }

  private void tell(String name, int... answers) {
    out.append(name).append(':');
    for (int v : answers) out.append(' ').append(v);
    out.append('\n');
  }

  private void state(String name) {
    int many = c.call("count", 0), texts = c.call("count", 3);
    tell(name, many, texts, c.call("count", 1), c.call("count", 2), c.call("count", 6), c.call("book", 0), c.call("fee"));
    tell(name + ", why", c.call("why", 0), c.call("why", 1), c.call("why", 2));
    for (int k = 0; k < many; k++) {
      tell(name + ", rubbing " + k, c.call("told", k, 0), c.call("told", k, 1), c.call("told", k, 2), c.call("told", k, 3), c.call("told", k, 4),
          c.call("told", k, 5), c.call("told", k, 7), c.call("fine", k));
    }
    for (int k = 0; k < texts; k++) tell(name + ", text " + k, c.call("textTold", k, 0), c.call("textTold", k, 1));
    int[] marks = new int[16];
    for (int x = 0; x < 16; x++) marks[x] = c.call("carved", x);
    tell(name + ", marks", marks);
  }

  private void slot(int k) {
    int worth = c.call("ask", k, 0), place = c.call("item", k, 0), rest = c.call("rest", k, Integer.MAX_VALUE);
    tell("slot " + k, worth, place, rest);
    if (place != Due.KIND || rest == Due.KIND && worth == Due.KIND) row(k);
    if (worth > Due.BAD + 100) for (int kind = 1; kind < 6; kind++) tell("of kind " + kind, c.call("ask", k, kind));
  }

  private void row(int slot) {
    for (int p = 0; p < 25; p++) {
      int v = c.call("item", slot, p);
      tell("place " + p, v);
      if (v == Due.INDEX || v == Due.NOTHING) return;
    }
  }

  private void sheet(int k) {
    tell("sheet " + k, c.call("lay", 0, 2, k));
    if (c.call("lay", 1, 2, k) == Due.NOTHING) return;
    row(1);
    tell("its sort", c.call("mark", k, 0, Due.NONE));
  }
}
