/** Promises 33 to 41: sheets, slots. */
public final class SheetsTest {
  private static final Due d = new Due("SheetsTest");

  /** The places of a SHEET, by a SLOT that is used for that alone. */
  private static String row(StoneSheets s, int sheet) {
    s.lay(4, 2, sheet);
    StringBuilder row = new StringBuilder();
    for (int k = 0; k < 99 && s.item(4, k) != Due.INDEX; k++) row.append(row.length() > 0 ? " " : "").append(s.item(4, k) == Due.KIND ? "-" : String.valueOf(s.item(4, k)));
    return row.toString();
  }

  private static void fill(StoneSheets s, int sheet, int sort, int... values) {
    s.sheet(sheet, sort, values.length);
    for (int k = 0; k < values.length; k++) s.mark(sheet, k, values[k]);
  }

  private static void sheet() {
    d.promise(33, "sheet");
    StoneSheets s = new StoneSheets();
    d.due("sheet(0, 0, 3)", s.sheet(0, 0, 3), 3);
    d.due("its places", row(s, 0), "0 0 0");
    d.due("sheet(3, 1, 24)", s.sheet(3, 1, 24), 24);
    d.due("a SHEET without places", s.sheet(1, 1, 0), 0);
    d.due("it is there", s.reads(1), Due.NONE);
    s.mark(0, 1, 5);
    d.due("sheet(0, 0, 4) anew", s.sheet(0, 0, 4), 4);
    d.due("all 0", row(s, 0), "0 0 0 0");
    d.due("sheet(0, 0, 25)", s.sheet(0, 0, 25), Due.BAD);
    d.due("sheet(0, 1, -1)", s.sheet(0, 1, -1), Due.SIZE);
    d.due("sheet(0, 2, -1)", s.sheet(0, 2, -1), Due.BAD);
    d.due("sheet(0, -2, 3)", s.sheet(0, -2, 3), Due.BAD);
    d.due("sheet(4, 0, 3)", s.sheet(4, 0, 3), Due.BAD);
    d.due("sheet(-1, 0, 3)", s.sheet(-1, 0, 3), Due.BAD);
    d.due("as it was", row(s, 0), "0 0 0 0");
    d.due("sheet(0, -1, 99)", s.sheet(0, -1, 99), 0);
    d.due("it is MISSING", s.reads(0), Due.NOTHING);
    d.due("sheet(3, -1, -9)", s.sheet(3, -1, -9), 0);
    d.due("it is MISSING", s.mark(3, 0, 0), Due.NOTHING);
    d.due("sheet(0, -1, 0) of a MISSING one", s.sheet(0, -1, 0), 0);
  }

  private static void mark() {
    d.promise(34, "mark");
    StoneSheets s = new StoneSheets();
    s.sheet(0, 0, 5);
    s.sheet(1, 1, 5);
    int[] values = {32767, 32768, 65535, -32769, 65536 + 7};
    for (int k = 0; k < 5; k++) d.due("mark of shorts", s.mark(0, k, values[k]), 1);
    d.due("their lowest 16 bits", row(s, 0), "32767 -32768 -1 32767 7");
    d.due("NONE in a row of shorts", s.mark(0, 0, Due.NONE), Due.KIND);
    d.due("another far number in it", s.mark(0, 0, Due.BAD), 1);
    d.due("mark(1, 0, 99999)", s.mark(1, 0, 99999), 1);
    d.due("mark(1, 1, -99999)", s.mark(1, 1, -99999), 1);
    d.due("mark(1, 2, NONE)", s.mark(1, 2, Due.NONE), 1);
    d.due("mark(1, 3, 100000)", s.mark(1, 3, 100000), Due.BAD);
    d.due("mark(1, 3, -100000)", s.mark(1, 3, -100000), Due.BAD);
    d.due("floats", row(s, 1), "99999 -99999 - 0 0");
    d.due("a number where NO NUMBER was", s.mark(1, 2, 70000), 1);
    d.due("floats then", row(s, 1), "99999 -99999 70000 0 0");
    d.due("INDEX stands ahead of BAD", s.mark(1, 5, 100000), Due.INDEX);
    d.due("INDEX stands ahead of KIND", s.mark(0, -1, Due.NONE), Due.INDEX);
    d.due("NOTHING stands ahead of INDEX", s.mark(2, 99, 0), Due.NOTHING);
    d.due("mark(4, 0, 0)", s.mark(4, 0, 0), Due.BAD);
    d.due("mark(-1, 0, 0)", s.mark(-1, 0, 0), Due.BAD);
  }

  private static void pour() {
    d.promise(35, "pour");
    StoneSheets s = new StoneSheets();
    for (int x = 0; x < 16; x++) s.carve(x, 1);
    fill(s, 0, 1, 0, 1, Due.NONE, 3, 4, -1, 99999);
    d.due("pour(0)", s.pour(0), 5);
    StringBuilder marks = new StringBuilder();
    for (int x = 0; x < 16; x++) marks.append(s.carved(x));
    d.due("MARKS", marks.toString(), "0113303111111111");
    d.due("pour(0) again", s.pour(0), 0);
    s.sheet(1, 0, 24);
    s.mark(1, 15, 2);
    s.mark(1, 16, 2);
    d.due("a SHEET beyond the wall", s.pour(1), 14);
    d.due("the last place", s.carved(15), 2);
    s.sheet(1, 0, 0);
    d.due("a SHEET without places", s.pour(1), 0);
    d.due("pour(2)", s.pour(2), Due.NOTHING);
    d.due("pour(4)", s.pour(4), Due.BAD);
    d.due("pour(-1)", s.pour(-1), Due.BAD);
  }

  private static void reads() {
    d.promise(36, "reads");
    StoneSheets s = new StoneSheets();
    s.rubbing(0, 0, 1);
    s.rubbing(1, 0, 1);
    s.set(1, 5, 7);
    fill(s, 0, 0, 50, 7);
    d.due("as TRUST is", s.reads(0), Due.NONE);
    fill(s, 0, 0, 50);
    d.due("a short one", s.reads(0), Due.NONE);
    fill(s, 0, 0, 50, 7, 0);
    d.due("a number of no RUBBING", s.reads(0), 2);
    fill(s, 0, 1, 50, 8);
    d.due("another one", s.reads(0), 1);
    fill(s, 0, 1, 0, 8);
    d.due("the first", s.reads(0), 0);
    fill(s, 0, 1, Due.NONE, 7, Due.NONE);
    d.due("places that are no numbers", s.reads(0), Due.NONE);
    fill(s, 0, 1, Due.NONE, 7, Due.NONE, 1);
    d.due("behind them", s.reads(0), 3);
    d.due("reads(1)", s.reads(1), Due.NOTHING);
    d.due("reads(4)", s.reads(4), Due.BAD);
    d.due("reads(-1)", s.reads(-1), Due.BAD);
  }

  private static void copy() {
    d.promise(37, "copy");
    StoneSheets s = new StoneSheets();
    fill(s, 0, 1, 1, 2, Due.NONE, 4, 5);
    s.sheet(1, 1, 3);
    s.sheet(2, 0, 5);
    d.due("copy(0, 1, 1, 0, 3)", s.copy(0, 1, 1, 0, 3), 3);
    d.due("the other", row(s, 1), "2 - 4");
    d.due("copy(0, 0, 0, 1, 4)", s.copy(0, 0, 0, 1, 4), 4);
    d.due("the same, onwards", row(s, 0), "1 1 2 - 4");
    d.due("copy(0, 1, 0, 0, 4)", s.copy(0, 1, 0, 0, 4), 4);
    d.due("the same, backwards", row(s, 0), "1 2 - 4 4");
    s.sheet(3, 1, 24);
    d.due("all of 24", s.copy(3, 0, 3, 0, 24), 24);
    d.due("into 24", s.copy(0, 1, 3, 23, 1), 1);
    d.due("beyond 24", s.copy(0, 1, 3, 23, 2), Due.INDEX);
    s.sheet(3, -1, 0);
    d.due("none", s.copy(0, 5, 1, 3, 0), 0);
    d.due("none, beyond", s.copy(0, 6, 1, 3, 0), Due.INDEX);
    d.due("none, to beyond", s.copy(0, 5, 1, 4, 0), Due.INDEX);
    d.due("too many of the first", s.copy(1, 1, 0, 0, 3), Due.INDEX);
    d.due("too many for the other", s.copy(0, 0, 1, 0, 4), Due.INDEX);
    d.due("many below 0", s.copy(0, 1, 1, 1, -1), Due.INDEX);
    d.due("place below 0", s.copy(0, -1, 1, 0, 1), Due.INDEX);
    d.due("at below 0", s.copy(0, 0, 1, -1, 1), Due.INDEX);
    d.due("most of the ints", s.copy(0, 1, 1, 1, Integer.MAX_VALUE), Due.INDEX);
    d.due("place of the ints", s.copy(0, Integer.MAX_VALUE, 1, 1, 2), Due.INDEX);
    d.due("KIND stands ahead of INDEX", s.copy(0, 9, 2, 9, 9), Due.KIND);
    d.due("NOTHING stands ahead of INDEX", s.copy(0, 9, 3, 9, 9), Due.NOTHING);
    d.due("NOTHING of the first", s.copy(3, 0, 0, 0, 1), Due.NOTHING);
    d.due("BAD stands ahead of NOTHING", s.copy(3, 0, 4, 0, 1), Due.BAD);
    d.due("copy(-1, 0, 0, 0, 1)", s.copy(-1, 0, 0, 0, 1), Due.BAD);
    d.due("copy(4, 0, 0, 0, 1)", s.copy(4, 0, 0, 0, 1), Due.BAD);
    d.due("copy(0, 0, -1, 0, 1)", s.copy(0, 0, -1, 0, 1), Due.BAD);
    d.due("as it was", row(s, 0), "1 2 - 4 4");
  }

  private static void lay() {
    d.promise(38, "lay");
    StoneSheets s = new StoneSheets();
    s.rubbing(3, 0, 1);
    fill(s, 2, 0, 5, 6);
    d.due("lay(0, 1, 0)", s.lay(0, 1, 0), 0);
    d.due("lay(0, 2, 2)", s.lay(0, 2, 2), 1);
    d.due("lay(0, 3, -9)", s.lay(0, 3, -9), 2);
    d.due("lay(0, 0, 99)", s.lay(0, 0, 99), 3);
    d.due("lay(0, 0, 0)", s.lay(0, 0, 0), 0);
    s.lay(1, 1, 0);
    s.lay(2, 2, 2);
    s.set(0, 5, 1);
    s.turns(0, 0);
    s.mark(2, 0, 9);
    d.due("a RUBBING as it was", s.ask(1, 3), 110);
    d.due("a SHEET as it was", s.item(2, 0), 5);
    s.sheet(2, -1, 0);
    d.due("a SHEET that is MISSING since", s.item(2, 1), 6);
    d.due("another SLOT", s.item(3, 0), Due.NOTHING);
    d.due("lay(1, 1, 1)", s.lay(1, 1, 1), Due.BAD);
    d.due("lay(1, 1, -1)", s.lay(1, 1, -1), Due.BAD);
    d.due("lay(1, 2, 4)", s.lay(1, 2, 4), Due.BAD);
    d.due("lay(1, 2, -1)", s.lay(1, 2, -1), Due.BAD);
    d.due("lay(1, 2, 2)", s.lay(1, 2, 2), Due.NOTHING);
    d.due("lay(1, 4, 0)", s.lay(1, 4, 0), Due.BAD);
    d.due("lay(1, -1, 0)", s.lay(1, -1, 0), Due.BAD);
    d.due("lay(5, 0, 0)", s.lay(5, 0, 0), Due.BAD);
    d.due("lay(-1, 0, 0)", s.lay(-1, 0, 0), Due.BAD);
    d.due("it holds what it held", s.ask(1, 1), 110);
    s.sheet(3, 1, 0);
    d.due("a SHEET without places", s.lay(3, 2, 3), 0);
    d.due("it holds a SHEET", s.lay(3, 0, 0), 2);
  }

  private static void ask() {
    d.promise(39, "ask");
    StoneSheets s = new StoneSheets();
    int[] worth = {40, 45, 59, 90, 53, 1};
    String[] of = {"Y-----", "YY----", "Y-Y---", "YY-Y--", "Y-Y-Y-", "Y----Y"};
    for (int kind = 0; kind < 6; kind++) {
      s.rubbing(kind, 0, 1);
      s.set(kind, 5, 40);
      s.lay(0, 1, kind);
      for (int asked = 0; asked < 6; asked++) {
        d.due("ask(0, " + asked + ") of " + kind, s.ask(0, asked), of[kind].charAt(asked) == 'Y' ? worth[kind] : Due.KIND);
      }
    }
    s.sheet(0, 0, 1);
    s.lay(1, 2, 0);
    s.lay(2, 3, 0);
    d.due("of a SHEET", s.ask(1, 0), Due.KIND);
    d.due("of a number", s.ask(2, 0), Due.KIND);
    d.due("of nothing", s.ask(3, 0), Due.NOTHING);
    d.due("BAD stands ahead of NOTHING", s.ask(3, 6), Due.BAD);
    d.due("ask(0, -1)", s.ask(0, -1), Due.BAD);
    d.due("ask(5, 0)", s.ask(5, 0), Due.BAD);
    d.due("ask(-1, 0)", s.ask(-1, 0), Due.BAD);
  }

  private static void item() {
    d.promise(40, "item");
    StoneSheets s = new StoneSheets();
    s.rubbing(0, 0, 1);
    fill(s, 0, 1, 5, Due.NONE, -7);
    fill(s, 1, 0, -5);
    s.lay(0, 2, 0);
    s.lay(1, 2, 1);
    s.lay(2, 1, 0);
    s.lay(3, 3, 8);
    d.due("item(0, 0)", s.item(0, 0), 5);
    d.due("item(0, 1)", s.item(0, 1), Due.KIND);
    d.due("item(0, 2)", s.item(0, 2), -7);
    d.due("item(0, 3)", s.item(0, 3), Due.INDEX);
    d.due("item(0, -1)", s.item(0, -1), Due.INDEX);
    d.due("item(1, 0)", s.item(1, 0), -5);
    d.due("of a RUBBING", s.item(2, 99), Due.KIND);
    d.due("of a number", s.item(3, 0), Due.KIND);
    d.due("of nothing", s.item(4, 99), Due.NOTHING);
    d.due("item(5, 0)", s.item(5, 0), Due.BAD);
    d.due("item(-1, 0)", s.item(-1, 0), Due.BAD);
  }

  private static void rest() {
    d.promise(41, "rest");
    StoneSheets s = new StoneSheets();
    s.rubbing(0, 0, 1);
    s.sheet(0, 0, 1);
    s.lay(0, 3, 17);
    s.lay(1, 3, -17);
    s.lay(2, 1, 0);
    s.lay(3, 2, 0);
    d.due("rest(0, 5)", s.rest(0, 5), 2);
    d.due("rest(0, -5)", s.rest(0, -5), 2);
    d.due("rest(1, 5)", s.rest(1, 5), -2);
    d.due("rest(0, 0)", s.rest(0, 0), Due.NO);
    d.due("of a RUBBING", s.rest(2, 0), Due.KIND);
    d.due("of a SHEET", s.rest(3, 5), Due.KIND);
    d.due("of nothing", s.rest(4, 0), Due.NOTHING);
    d.due("rest(5, 1)", s.rest(5, 1), Due.BAD);
    d.due("rest(-1, 1)", s.rest(-1, 1), Due.BAD);
    s.lay(0, 3, Integer.MIN_VALUE);
    d.due("the least int by -1", s.rest(0, -1), 0);
    d.due("the least int by the most", s.rest(0, Integer.MAX_VALUE), -1);
  }

  public static void main(String[] args) {
    sheet();
    mark();
    pour();
    reads();
    copy();
    lay();
    ask();
    item();
    rest();
    d.end();
  }
}
