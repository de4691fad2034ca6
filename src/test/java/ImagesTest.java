/** Promises 42 to 46: rows, images. */
public final class ImagesTest {
  private static final Due d = new Due("ImagesTest");

  private static void tell() {
    d.promise(42, "tell");
    StoneSheets s = new StoneSheets();
    for (int n = 1; n <= 60; n++) d.due("tell", s.tell(n - 9), n);
    d.due("the 61st", s.tell(1), Due.FULL);
    d.due("count(4)", s.count(4), 60);
  }

  private static StoneSheets withImage() {
    StoneSheets s = new StoneSheets();
    Due.laid(s, 5, "00", 0);
    Due.laid(s, 0, "0", 1);
    s.set(0, 5, 40);
    s.seed(Due.seedFor(0, 1, 0));
    s.keep();
    s.seed(99);
    s.set(1, 5, 2);
    s.set(1, 4, 16);
    s.tides(1);
    return s;
  }

  private static int told(StoneSheets s, int n, int... row) {
    for (int v : row) s.tell(v);
    return s.check(n);
  }

  private static void check() {
    d.promise(43, "check");
    StoneSheets s = withImage();
    d.due("all right", told(s, 3, 70, 2, 53, 1, 53, 1), 0);
    d.due("none wait then", s.count(4), 0);
    d.due("again", told(s, 2, 70, 2, 53, 1), 0);
    d.due("the first is not", told(s, 2, 71, 2, 53, 1), 1);
    d.due("the second is not", told(s, 2, 70, 1, 53, 1), 2);
    d.due("the last is not", told(s, 2, 70, 2, 53, 2), 4);
    d.due("one is missing", told(s, 2, 70, 2, 53), 4);
    d.due("all are missing", told(s, 2), 1);
    d.due("one too many", told(s, 1, 70, 2, 53), 3);
    d.due("many too many", told(s, 1, 70, 2, 53, 1), 3);
    s.tell(70);
    d.due("check(0)", s.check(0), Due.BAD);
    d.due("none wait behind BAD", s.count(4), 0);
    d.due("check(31)", s.check(31), Due.BAD);
    int tide = s.count(1);
    d.due("check(30) of none", s.check(30), 1);
    d.due("nothing else changes", s.count(1), tide);
    StoneSheets t = new StoneSheets();
    t.tell(5);
    d.due("no IMAGE, and BAD", t.check(31), Due.BAD);
    t.tell(5);
    d.due("no IMAGE", t.check(30), Due.NO);
    d.due("none wait behind NO", t.count(4), 0);
    StoneSheets u = new StoneSheets();
    u.rubbing(0, 0, 1);
    u.keep();
    for (int i = 0; i < 30; i++) {
      u.tell(50);
      u.tell(0);
    }
    d.due("sixty of 30 TIDES", u.check(30), 0);
    d.due("by a TEXT of THE IMAGE", byText(), 0);
  }

  /** THE IMAGE has its own gain, though another one counts by now. */
  private static int byText() {
    StoneSheets s = new StoneSheets();
    Due.laid(s, 0, "0", 0);
    s.seed(Due.seedFor(0));
    Due.text(s, "gain 9");
    s.keep();
    Due.text(s, "gain 1");
    return told(s, 1, 59, 1);
  }

  private static void keepAndBack() {
    d.promise(44, "keep");
    StoneSheets s = new StoneSheets();
    d.due("keep() of none", s.keep(), 0);
    Due.laid(s, 3, "12", 4);
    Due.laid(s, 5, "0", 7);
    s.set(0, 3, 1);
    s.set(1, 5, 9);
    s.carve(3, 2);
    s.seed(Due.seedFor(7));
    s.tides(1);
    Due.text(s, "fee 77");
    Due.text(s, "gain 11");
    d.due("keep() of two", s.keep(), 2);
    int z = s.count(6);
    s.turns(0, 1);
    for (int what = 1; what < 6; what++) s.set(0, what, 1);
    s.deal(3);
    s.carve(3, 0);
    s.tides(5);
    Due.text(s, "fee 5");
    Due.text(s, "gain 6");
    Due.text(s, "fine 7");
    s.sheet(0, 0, 1);
    s.lay(0, 3, 6);
    s.tell(4);
    s.feed(1, 2, 3);
    d.promise(45, "back");
    for (int again = 0; again < 2; again++) {
      d.due("back()", s.back(), 2);
      int[] first = {3, Due.raw("12"), 2, 1, 4, 50};
      for (int what = 0; what < 6; what++) d.due("told(0, " + what + ")", s.told(0, what), first[what]);
      d.due("told(0, 7)", s.told(0, 7), 12);
      d.due("told(1, 5)", s.told(1, 5), 0);
      d.due("told(1, 4)", s.told(1, 4), 16);
      d.due("count(0)", s.count(0), 2);
      d.due("THE TIDE", s.count(1), 1);
      d.due("FOUND", s.book(0), 1);
      d.due("TEXTS", s.count(3), 2);
      d.due("why(0)", s.why(0), 1);
      d.due("why(2)", s.why(2), Due.NONE);
      d.due("fee()", s.fee(), 77);
      d.due("z", s.count(6), z);
      d.due("carved(3)", s.carved(3), 2);
      d.due("SHEETS stay", s.reads(0), 0);
      d.due("SLOTS stay", s.rest(0, 4), 2);
      d.due("numbers that wait stay", s.count(4), 1);
      d.due("THE TAPE stays", s.count(5), 12);
      s.deal(9);
      s.set(0, 4, 16);
      s.carve(3, 1);
      s.tides(9);
      s.trim(0);
      d.due("a TEXT more", Due.text(s, "fee 1234"), 2);
      d.due("it counts", s.fee(), 1234);
      s.feed(1, 2, 3);
    }
    StoneSheets t = new StoneSheets();
    t.keep();
    Due.laid(t, 3, "3333", 5);
    t.set(0, 3, 1);
    t.set(0, 5, 7);
    d.due("back() to none", t.back(), 0);
    t.rubbing(0, Due.raw("01"), 2);
    d.due("a new RUBBING where another one was", Due.says(t, 0), "01");
    int[] fresh = {0, Due.raw("01"), 2, 0, 16, 50};
    for (int what = 0; what < 6; what++) d.due("told(0, " + what + ") of it", t.told(0, what), fresh[what]);
    t.set(0, 3, 1);
    t.keep();
    t.set(0, 3, 0);
    t.back();
    d.due("TURNED is kept", t.told(0, 3), 1);
    d.due("back() of a new object", new StoneSheets().back(), Due.NO);
    s.keep();
    s.carve(0, 3);
    s.back();
    d.due("THE IMAGE kept last", s.count(0), 9);
    d.due("its THE WALL", s.carved(0), 0);
  }

  private static void count() {
    d.promise(46, "count");
    StoneSheets s = new StoneSheets();
    for (int k = 0; k < 5; k++) s.rubbing(0, 0, 1);
    s.set(1, 4, 3);
    s.set(4, 4, 15);
    s.tides(7);
    Due.text(s, "fee 1");
    s.tell(1);
    s.tell(2);
    s.tell(3);
    s.feed(1, 2, 3);
    s.seed(-5);
    int[] due = {5, 7, 2, 1, 3, 12, -5};
    for (int what = 0; what < 7; what++) d.due("count(" + what + ")", s.count(what), due[what]);
    d.due("count(7)", s.count(7), Due.BAD);
    d.due("count(-1)", s.count(-1), Due.BAD);
  }

  public static void main(String[] args) {
    tell();
    check();
    keepAndBack();
    count();
    d.end();
  }
}
