/** Promises 12 to 18: how they lie. */
public final class LiesTest {
  private static final Due d = new Due("LiesTest");

  private static void carveAll(StoneSheets s, String marks) {
    for (int x = 0; x < marks.length(); x++) s.carve(x, marks.charAt(x) - '0');
  }

  private static void falseAt() {
    d.promise(12, "falseAt");
    StoneSheets s = new StoneSheets();
    carveAll(s, "0123012301230123");
    s.rubbing(0, Due.raw("0123"), 4);
    d.due("falseAt(0, 0)", s.falseAt(0, 0), 0);
    d.due("falseAt(0, 1)", s.falseAt(0, 1), 4);
    d.due("falseAt(0, 12)", s.falseAt(0, 12), 0);
    d.due("falseAt(0, 13), over the edge", s.falseAt(0, 13), 3);
    d.due("falseAt(0, 15), over the edge", s.falseAt(0, 15), 1);
    s.set(0, 4, 5);
    d.due("LAID elsewhere", s.falseAt(0, 0), 0);
    s.turns(0, 1);
    d.due("as it SAYS (0 2 3 3)", s.falseAt(0, 0), 2);
    d.due("falseAt(0, 16)", s.falseAt(0, 16), Due.BAD);
    d.due("falseAt(0, -1)", s.falseAt(0, -1), Due.BAD);
    d.due("falseAt(1, 0)", s.falseAt(1, 0), Due.BAD);
    d.due("falseAt(-1, 0)", s.falseAt(-1, 0), Due.BAD);
  }

  private static void fits() {
    d.promise(13, "fits");
    StoneSheets s = new StoneSheets();
    carveAll(s, "0000120000120123");
    s.rubbing(0, Due.raw("12"), 2);
    d.due("the least of several", s.fits(0, 0), 4);
    d.due("FALSE there", s.fits(0, 1), 0);
    s.carve(1, 1);
    s.carve(2, 2);
    d.due("at 1", s.fits(0, 0), 1);
    s.carve(1, 0);
    s.carve(2, 0);
    s.rubbing(0, Due.raw("123"), 3);
    d.due("at the last x", s.fits(1, 0), 13);
    d.due("FALSE at the last x", s.fits(1, 1), 0);
    s.rubbing(0, Due.raw("33"), 2);
    d.due("no x over the edge", s.fits(2, 0), 14);
    d.due("FALSE of 33", s.fits(2, 1), 1);
    s.rubbing(0, Due.raw("00001200"), 8);
    d.due("of SIZE 8", s.fits(3, 0), 0);
    d.due("fits(0, 2)", s.fits(0, 2), Due.BAD);
    d.due("fits(0, -1)", s.fits(0, -1), Due.BAD);
    d.due("fits(4, 0)", s.fits(4, 0), Due.BAD);
    d.due("fits(-1, 0)", s.fits(-1, 0), Due.BAD);
  }

  private static void join() {
    d.promise(14, "join");
    StoneSheets s = new StoneSheets();
    s.rubbing(0, Due.raw("0123"), 4);
    s.rubbing(0, Due.raw("2311"), 4);
    s.rubbing(0, Due.raw("3"), 1);
    s.rubbing(0, Due.raw("1111"), 4);
    d.due("join(0, 1, 0)", s.join(0, 1, 0), 2);
    d.due("join(0, 1, 1)", s.join(0, 1, 1), 2);
    d.due("join(0, 2, 0)", s.join(0, 2, 0), 3);
    d.due("join(0, 2, 1)", s.join(0, 2, 1), 1);
    d.due("join(2, 0, 0)", s.join(2, 0, 0), 0);
    d.due("join(2, 0, 1)", s.join(2, 0, 1), -2);
    d.due("join(1, 0, 0): a loss, the least", s.join(1, 0, 0), 2);
    d.due("join(1, 0, 1)", s.join(1, 0, 1), -1);
    d.due("join(3, 1, 0)", s.join(3, 1, 0), 0);
    d.due("join(3, 1, 1): 2 alike less 2 for each of 2", s.join(3, 1, 1), -2);
    StoneSheets u = new StoneSheets();
    u.rubbing(0, Due.raw("01231111"), 3);
    u.rubbing(0, Due.raw("121"), 2);
    d.due("at 1", u.join(0, 1, 0), 1);
    d.due("RAW beyond SIZE does not count", u.join(0, 1, 1), 2);
    u.set(0, 2, 4);
    u.rubbing(0, Due.raw("231"), 2);
    d.due("nor does that of the other", u.join(0, 2, 1), 2);
    s.turns(1, 5);
    d.due("as MADE (2 2 2 2)", s.join(0, 1, 1), -1);
    d.due("as MADE, where", s.join(0, 1, 0), 2);
    s.turns(3, 5);
    d.due("several: the least", s.join(1, 3, 0), 0);
    d.due("four alike", s.join(1, 3, 1), 4);
    d.due("join(0, 0, 0)", s.join(0, 0, 0), Due.BAD);
    d.due("join(0, 4, 0)", s.join(0, 4, 0), Due.BAD);
    d.due("join(4, 0, 0)", s.join(4, 0, 0), Due.BAD);
    d.due("join(-1, 0, 0)", s.join(-1, 0, 0), Due.BAD);
    d.due("join(0, 1, 2)", s.join(0, 1, 2), Due.BAD);
    d.due("join(0, 1, -1)", s.join(0, 1, -1), Due.BAD);
  }

  private static void clash() {
    d.promise(15, "clash");
    StoneSheets s = new StoneSheets();
    Due.laid(s, 0, "0123", 2);
    Due.laid(s, 0, "23", 4);
    Due.laid(s, 0, "0", 5);
    Due.laid(s, 0, "30", 15);
    Due.laid(s, 0, "33", 14);
    s.rubbing(0, 0, 8);
    d.due("clash(0, 1)", s.clash(0, 1), 0);
    d.due("clash(0, 2)", s.clash(0, 2), 1);
    d.due("clash(2, 0)", s.clash(2, 0), 1);
    d.due("clash(1, 2)", s.clash(1, 2), 1);
    d.due("clash(3, 4): no places beyond the wall", s.clash(3, 4), 0);
    d.due("clash(0, 5), LAID nowhere", s.clash(0, 5), 0);
    d.due("clash(0, 4), apart", s.clash(0, 4), 0);
    s.set(4, 3, 1);
    s.set(4, 1, Due.raw("03"));
    d.due("clash(3, 4), TURNED", s.clash(3, 4), 1);
    d.due("clash(1, 1)", s.clash(1, 1), Due.BAD);
    d.due("clash(0, 6)", s.clash(0, 6), Due.BAD);
    d.due("clash(6, 0)", s.clash(6, 0), Due.BAD);
    d.due("clash(-1, 0)", s.clash(-1, 0), Due.BAD);
  }

  private static void undone() {
    d.promise(16, "undone");
    StoneSheets s = new StoneSheets();
    d.due("of none", s.undone(), 0);
    Due.laid(s, 0, "1", 0);
    d.due("of one", s.undone(), 0);
    Due.laid(s, 0, "1", 0);
    d.due("of two that say alike", s.undone(), 0);
    Due.laid(s, 0, "2", 0);
    d.due("the one against two", s.undone(), Due.set(2));
    Due.laid(s, 0, "2", 0);
    d.due("two against two: the least", s.undone(), Due.set(0, 1));
    s.rubbing(0, 3, 1);
    d.due("one that is LAID nowhere", s.undone(), Due.set(0, 1));
    s.set(0, 4, 16);
    d.due("one against two", s.undone(), Due.set(1));
    s.set(2, 4, 16);
    s.set(3, 4, 16);
    d.due("none against it by now", s.undone(), 0);
    StoneSheets t = new StoneSheets();
    for (int k = 0; k < 9; k++) Due.laid(t, 0, "00", k);
    d.due("a chain of nine", t.undone(), 0);
    for (int k = 0; k < 9; k++) t.set(k, 1, Due.raw("12"));
    d.due("a chain of nine that clash", t.undone(), Due.set(1, 3, 5, 7));
    for (int k = 0; k < 4; k++) t.set(k, 4, 16);
    d.due("a chain of five", t.undone(), Due.set(5, 7));
    for (int k = 0; k < 4; k++) t.set(k, 4, 0);
    for (int k = 0; k < 4; k++) t.set(k, 1, k);
    for (int k = 4; k < 9; k++) t.set(k, 4, 16);
    d.due("four, each against each", t.undone(), Due.set(0, 1, 2));
  }

  private static void borne() {
    d.promise(17, "borne");
    StoneSheets s = new StoneSheets();
    d.due("of none", s.borne(), 0);
    Due.laid(s, 0, "11", 0);
    Due.laid(s, 0, "11", 2);
    Due.laid(s, 0, "11", 1);
    d.due("two of three", s.borne(), Due.set(0, 1));
    Due.laid(s, 0, "1111", 0);
    d.due("one of four", s.borne(), Due.set(3));
    Due.laid(s, 0, "1111", 0);
    d.due("several: the least", s.borne(), Due.set(3));
    Due.laid(s, 5, "00000000", 15);
    d.due("one over the edge", s.borne(), Due.set(3, 5));
    Due.laid(s, 5, "0", 15);
    d.due("one beside it", s.borne(), Due.set(3, 5));
    s.rubbing(0, 0, 8);
    d.due("one that is LAID nowhere", s.borne(), Due.set(3, 5));
    s.set(3, 4, 16);
    s.set(4, 4, 16);
    s.set(5, 4, 16);
    d.due("those that are left", s.borne(), Due.set(0, 1, 6));
  }

  private static void look() {
    d.promise(18, "look");
    StoneSheets s = new StoneSheets();
    d.due("look(0) of none", s.look(0), 0);
    d.due("look(1) of none", s.look(1), 0);
    Due.laid(s, 0, "0001", 12);
    d.due("the last place", s.look(0), 15);
    d.due("how many there", s.look(1), 1);
    Due.laid(s, 0, "1111", 3);
    d.due("of several the least", s.look(0), 3);
    Due.laid(s, 0, "2", 5);
    d.due("most", s.look(0), 5);
    d.due("how many", s.look(1), 2);
    s.carve(5, 2);
    d.due("most, once it is carved", s.look(0), 3);
    d.due("how many then", s.look(1), 1);
    s.set(1, 4, 16);
    d.due("LAID nowhere", s.look(0), 15);
    s.carve(1, 1);
    Due.laid(s, 0, "00", 0);
    d.due("at 1", s.look(0), 1);
    s.carve(0, 1);
    d.due("at 0", s.look(0), 0);
    s.carve(1, 0);
    d.due("at 0 alone", s.look(0), 0);
    s.carve(0, 0);
    d.due("not at 0", s.look(0), 15);
    d.due("look(2)", s.look(2), Due.BAD);
    d.due("look(-1)", s.look(-1), Due.BAD);
  }

  public static void main(String[] args) {
    falseAt();
    fits();
    join();
    clash();
    undone();
    borne();
    look();
    d.end();
  }
}
