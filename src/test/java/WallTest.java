/** Promises 1 to 11: rubbings, the wall. */
public final class WallTest {
  private static final Due d = new Due("WallTest");

  private static void aNewObject() {
    d.promise(1, "a new object");
    StoneSheets s = new StoneSheets();
    int[] counts = {0, 0, 0, 0, 0, 0, 1};
    for (int what = 0; what < 7; what++) d.due("count(" + what + ")", s.count(what), counts[what]);
    for (int x = 0; x < 16; x++) d.due("carved(" + x + ")", s.carved(x), 0);
    d.due("book(0)", s.book(0), 0);
    d.due("book(1)", s.book(1), 0);
    d.due("book(2)", s.book(2), 0);
    d.due("book(3)", s.book(3), 65535);
    for (int key = 0; key < 3; key++) d.due("why(" + key + ")", s.why(key), Due.NONE);
    for (int k = 0; k < 4; k++) d.due("reads(" + k + ")", s.reads(k), Due.NOTHING);
    for (int k = 0; k < 5; k++) d.due("item(" + k + ", 0)", s.item(k, 0), Due.NOTHING);
    d.due("back()", s.back(), Due.NO);
    d.due("told(0, 0)", s.told(0, 0), Due.BAD);
    StoneSheets other = new StoneSheets();
    s.rubbing(0, 1, 1);
    s.carve(3, 2);
    d.due("count(0) of another object", other.count(0), 0);
    d.due("carved(3) of another object", other.carved(3), 0);
  }

  private static void rubbing() {
    d.promise(2, "rubbing");
    StoneSheets s = new StoneSheets();
    d.due("rubbing(0, 0, 1)", s.rubbing(0, 0, 1), 0);
    d.due("rubbing(5, 65535, 8)", s.rubbing(5, 65535, 8), 1);
    d.due("told(1, 0)", s.told(1, 0), 5);
    d.due("told(1, 1)", s.told(1, 1), 65535);
    d.due("told(1, 2)", s.told(1, 2), 8);
    d.due("rubbing(-1, 0, 1)", s.rubbing(-1, 0, 1), Due.BAD);
    d.due("rubbing(6, 0, 1)", s.rubbing(6, 0, 1), Due.BAD);
    d.due("rubbing(0, -1, 1)", s.rubbing(0, -1, 1), Due.BAD);
    d.due("rubbing(0, 65536, 1)", s.rubbing(0, 65536, 1), Due.BAD);
    d.due("rubbing(0, 0, 0)", s.rubbing(0, 0, 0), Due.BAD);
    d.due("rubbing(0, 0, 9)", s.rubbing(0, 0, 9), Due.BAD);
    d.due("count(0) behind refusals", s.count(0), 2);
    for (int k = 2; k < 9; k++) d.due("rubbing(1, 7, 3)", s.rubbing(1, 7, 3), k);
    d.due("the tenth", s.rubbing(1, 7, 3), Due.FULL);
    d.due("the tenth, and BAD", s.rubbing(1, 7, 0), Due.BAD);
    d.due("count(0) when full", s.count(0), 9);
  }

  private static void told() {
    d.promise(3, "told");
    StoneSheets s = new StoneSheets();
    int[] gains = {3, 4, 1, 4, 3, 0}, loses = {5, 7, 3, 14, 3, 20}, worth = {30, 35, 69, 70, 63, 1};
    for (int kind = 0; kind < 6; kind++) {
      s.rubbing(kind, 100 + kind, 4);
      d.due("TURNED at first", s.told(kind, 3), 0);
      d.due("LAID at first", s.told(kind, 4), 16);
      d.due("TRUST at first", s.told(kind, 5), 50);
      d.due("COVERS at first", s.told(kind, 6), 0);
      s.set(kind, 3, 1);
      s.set(kind, 4, 14 - kind);
      s.set(kind, 5, 30);
      int[] due = {kind, 100 + kind, 4, 1, 14 - kind, 30, 15 << 14 - kind & 65535, gains[kind], loses[kind], worth[kind]};
      for (int what = 0; what < 10; what++) d.due("told(" + kind + ", " + what + ")", s.told(kind, what), due[what]);
    }
    d.due("told(0, 10)", s.told(0, 10), Due.BAD);
    d.due("told(0, -1)", s.told(0, -1), Due.BAD);
    d.due("told(6, 0)", s.told(6, 0), Due.BAD);
    d.due("told(-1, 0)", s.told(-1, 0), Due.BAD);
    s.set(2, 5, 99);
    s.set(4, 5, 99);
    d.due("WORTH of a FAINT with TRUST 99", s.told(2, 9), 0);
    d.due("WORTH of a CRACKED with TRUST 99", s.told(4, 9), -6);
    Due.text(s, "gain 7");
    int[] seven = {7, 8, 3, 8, 5, 0};
    for (int kind = 0; kind < 6; kind++) d.due("GAINS by gain 7 of " + kind, s.told(kind, 7), seven[kind]);
    Due.text(s, "gain 500");
    int[] most = {99, 100, 49, 100, 51, 0};
    for (int kind = 0; kind < 6; kind++) d.due("GAINS by gain 500 of " + kind, s.told(kind, 7), most[kind]);
    Due.text(s, "gain 0 - 9");
    int[] least = {0, 1, 0, 1, 2, 0};
    for (int kind = 0; kind < 6; kind++) d.due("GAINS by gain 0 - 9 of " + kind, s.told(kind, 7), least[kind]);
    Due.text(s, "gain t + s * 10 + l");
    s.set(0, 4, 16);
    d.due("GAINS by names, LAID nowhere", s.told(0, 7), 30 + 40 + 16);
  }

  private static void says() {
    d.promise(4, "says");
    StoneSheets s = new StoneSheets();
    String[] due = {"0123012", "0233023", "0012001", "0333033", "0013001", "2222222"};
    String[] turned = {"2103210", "3203320", "1002100", "3303330", "1003100", "2222222"};
    for (int kind = 0; kind < 6; kind++) {
      s.rubbing(kind, Due.raw("01230123"), 7);
      d.due("kind " + kind, Due.says(s, kind), due[kind]);
      s.set(kind, 3, 1);
      d.due("kind " + kind + ", TURNED", Due.says(s, kind), turned[kind]);
      d.due("at SIZE", s.says(kind, 7), Due.BAD);
      d.due("at -1", s.says(kind, -1), Due.BAD);
    }
    d.due("says(6, 0)", s.says(6, 0), Due.BAD);
    d.due("says(-1, 0)", s.says(-1, 0), Due.BAD);
    s.set(4, 2, 1);
    d.due("a CRACKED of SIZE 1", s.says(4, 0), 3);
    s.set(4, 2, 8);
    d.due("a CRACKED of SIZE 8, at 4", s.says(4, 4), 3);
  }

  private static void as() {
    d.promise(5, "as");
    StoneSheets s = new StoneSheets();
    String[] of = {"Y-----", "YY----", "Y-Y---", "YY-Y--", "Y-Y-Y-", "Y----Y"};
    for (int kind = 0; kind < 6; kind++) {
      s.rubbing(kind, 0, kind + 1);
      for (int asked = 0; asked < 6; asked++) {
        d.due("as(" + kind + ", " + asked + ")", s.as(kind, asked), of[kind].charAt(asked) == 'Y' ? kind + 1 : Due.KIND);
      }
    }
    d.due("as(0, 6)", s.as(0, 6), Due.BAD);
    d.due("as(0, -1)", s.as(0, -1), Due.BAD);
    d.due("as(6, 0)", s.as(6, 0), Due.BAD);
    d.due("as(-1, 0)", s.as(-1, 0), Due.BAD);
  }

  private static void turns() {
    d.promise(6, "turns");
    StoneSheets s = new StoneSheets();
    s.rubbing(1, Due.raw("12"), 2);
    s.set(0, 5, 20);
    d.due("turns(0, 2)", s.turns(0, 2), 1);
    d.due("its marks", Due.says(s, 0), "01");
    d.due("its WORTH", s.told(0, 9), 79);
    d.due("as BOLD", s.as(0, 1), Due.KIND);
    d.due("turns(0, 2) again", s.turns(0, 2), 2);
    d.due("turns(0, 6)", s.turns(0, 6), Due.BAD);
    d.due("turns(0, -1)", s.turns(0, -1), Due.BAD);
    d.due("turns(1, 0)", s.turns(1, 0), Due.BAD);
    d.due("its KIND still", s.told(0, 0), 2);
  }

  private static void set() {
    d.promise(7, "set");
    StoneSheets s = new StoneSheets();
    s.rubbing(0, 9, 4);
    int[] first = {0, 9, 4, 0, 16, 50}, least = {0, 0, 1, 0, 0, 0}, most = {0, 65535, 8, 1, 16, 99};
    for (int what = 1; what < 6; what++) {
      d.due("what " + what + ", the most", s.set(0, what, most[what]), first[what]);
      d.due("what " + what + ", beyond", s.set(0, what, most[what] + 1), Due.BAD);
      d.due("what " + what + ", the least", s.set(0, what, least[what]), most[what]);
      d.due("what " + what + ", below", s.set(0, what, least[what] - 1), Due.BAD);
      d.due("what " + what + ", as told", s.told(0, what), least[what]);
    }
    d.due("set(0, 0, 1)", s.set(0, 0, 1), Due.BAD);
    d.due("set(0, 6, 1)", s.set(0, 6, 1), Due.BAD);
    d.due("set(1, 1, 1)", s.set(1, 1, 1), Due.BAD);
    d.due("set(-1, 1, 1)", s.set(-1, 1, 1), Due.BAD);
  }

  private static void carving() {
    d.promise(8, "carve");
    StoneSheets s = new StoneSheets();
    d.due("carve(0, 3)", s.carve(0, 3), 0);
    d.due("carve(0, 1)", s.carve(0, 1), 3);
    d.due("carve(15, 3)", s.carve(15, 3), 0);
    d.due("carve(15, 0)", s.carve(15, 0), 3);
    d.due("carve(15, 2)", s.carve(15, 2), 0);
    d.due("carve(0, 4)", s.carve(0, 4), Due.BAD);
    d.due("carve(0, -1)", s.carve(0, -1), Due.BAD);
    d.due("carve(16, 0)", s.carve(16, 0), Due.BAD);
    d.due("carve(-1, 0)", s.carve(-1, 0), Due.BAD);
    d.promise(9, "carved");
    d.due("carved(0)", s.carved(0), 1);
    d.due("carved(1)", s.carved(1), 0);
    d.due("carved(15)", s.carved(15), 2);
    d.due("carved(16)", s.carved(16), Due.BAD);
    d.due("carved(-1)", s.carved(-1), Due.BAD);
  }

  private static void deal() {
    d.promise(10, "deal");
    StoneSheets s = new StoneSheets();
    d.due("deal(0)", s.deal(0), Due.BAD);
    d.due("deal(10)", s.deal(10), Due.BAD);
    s.seed(-77);
    int z = -77;
    d.due("deal(4)", s.deal(4), 4);
    for (int k = 0; k < 4; k++) {
      z = z * 1103515245 + 12345;
      d.due("KIND of " + k, s.told(k, 0), (z >>> 8) % 6);
      z = z * 1103515245 + 12345;
      d.due("RAW of " + k, s.told(k, 1), (z >>> 8) % 65536);
      z = z * 1103515245 + 12345;
      d.due("SIZE of " + k, s.told(k, 2), 1 + (z >>> 8) % 8);
      d.due("LAID of " + k, s.told(k, 4), 16);
      d.due("TRUST of " + k, s.told(k, 5), 50);
    }
    d.due("z then", s.count(6), z);
    d.due("deal(9)", s.deal(9), 5);
    int then = s.count(6);
    d.due("deal(1) when full", s.deal(1), 0);
    d.due("no draws for others", s.count(6), then);
    d.due("count(0)", s.count(0), 9);
  }

  private static void seed() {
    d.promise(11, "seed");
    StoneSheets s = new StoneSheets();
    d.due("seed(5)", s.seed(5), 1);
    d.due("seed(MIN)", s.seed(Integer.MIN_VALUE), 5);
    d.due("seed(0)", s.seed(0), Integer.MIN_VALUE);
    s.tides(1);
    d.due("behind one draw", s.seed(1), 12345);
  }

  public static void main(String[] args) {
    aNewObject();
    rubbing();
    told();
    says();
    as();
    turns();
    set();
    carving();
    deal();
    seed();
    d.end();
  }
}
