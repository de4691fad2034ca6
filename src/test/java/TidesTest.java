/** Promises 19 to 27: tides. */
public final class TidesTest {
  private static final Due d = new Due("TidesTest");

  private static void tides() {
    d.promise(19, "tides");
    StoneSheets s = new StoneSheets();
    d.due("tides(0)", s.tides(0), Due.BAD);
    d.due("tides(101)", s.tides(101), Due.BAD);
    d.due("tides(-1)", s.tides(-1), Due.BAD);
    d.due("no TIDE yet", s.count(1), 0);
    d.due("no draw yet", s.count(6), 1);
    for (int kind = 0; kind < 6; kind++) Due.laid(s, kind, "10", 4);
    int[] gone = {47, 46, 54, 43, 50, 30};
    s.carve(4, 1);
    s.seed(Due.seedFor(4, 5, 9));
    d.due("a TIDE at 4", s.tides(1), 0);
    int[] then = {53, 43, 47, 36, 47, 30};
    for (int k = 0; k < 6; k++) d.due("TRUST behind a TIDE at 4 of " + k, s.told(k, 5), then[k]);
    d.due("a TIDE at 5", s.tides(1), 0);
    int[] next = {56, 47, 48, 40, 44, 10};
    for (int k = 0; k < 6; k++) d.due("TRUST behind a TIDE at 5 of " + k, s.told(k, 5), next[k]);
    d.due("a TIDE at 9, that none COVERS", s.tides(1), 0);
    for (int k = 0; k < 6; k++) d.due("TRUST behind a TIDE at 9 of " + k, s.told(k, 5), next[k]);
    d.due("THE TIDE", s.count(1), 3);
    s.set(0, 5, 98);
    s.set(1, 5, 7);
    s.set(2, 5, 4);
    s.seed(Due.seedFor(4, 4));
    d.due("two at 4: out with 1, 2 and 5", s.tides(2), 3);
    d.due("99 at most", s.told(0, 5), 99);
    d.due("TRUST of one that came to 0", s.told(1, 5), 0);
    d.due("LAID of one that came to 0", s.told(1, 4), 16);
    d.due("TRUST of one that came below 0", s.told(2, 5), 0);
    d.due("LAID of one that came below 0", s.told(2, 4), 16);
    d.due("FOUND", s.book(0), 3);
    d.due("TRUST of one that is still 44", s.told(4, 5), 38);
    s.set(3, 4, 16);
    s.set(4, 5, 4);
    s.seed(Due.seedFor(4));
    d.due("TRUST 1 is not out", s.tides(1), 0);
    d.due("its TRUST", s.told(4, 5), 1);
    d.due("its LAID", s.told(4, 4), 4);
    s.seed(Due.seedFor(4));
    d.due("out, beside those that were FOUND", s.tides(1), 1);
    d.due("FOUND then", s.book(0), 4);
    d.due("tides(100)", s.tides(100) >= 0 ? 1 : 0, 1);
  }

  private static void theLastTide() {
    StoneSheets s = new StoneSheets();
    for (int i = 0; i < 99; i++) s.tides(100);
    d.due("THE TIDE behind 99 times 100", s.count(1), 9900);
    s.tides(98);
    s.rubbing(5, 0, 8);
    s.set(0, 4, 0);
    s.seed(Due.seedFor(0, 6, 7));
    d.due("no more than up to 9999", s.tides(100), 0);
    d.due("THE TIDE at last", s.count(1), 9999);
    d.due("TRUST behind one TIDE", s.told(0, 5), 30);
    int z = s.count(6);
    d.due("tides(1) at 9999", s.tides(1), 0);
    d.due("no draw at 9999", s.count(6), z);
    d.due("BEHIND goes beyond it", s.behind(2, 3), 0);
    d.due("FOUND, BEHIND it", s.behind(2, 2), 1);
    s.keep();
    d.due("no TIDES TOLD beyond it", s.check(5), 0);
    s.tell(30);
    d.due("one too many", s.check(5), 1);
  }

  /** By the words' order: what was gained or lost first, then whether it is 0, whichever it was. */
  private static void trustOfNothing() {
    StoneSheets s = new StoneSheets();
    Due.laid(s, 5, "0", 2);
    Due.laid(s, 0, "2", 2);
    s.carve(2, 2);
    s.set(0, 5, 0);
    s.set(1, 5, 0);
    s.seed(Due.seedFor(2));
    d.due("TRUST 0 that gains 0, beside one that gains 3", s.tides(1), 1);
    d.due("LAID of the one", s.told(0, 4), 16);
    d.due("LAID of the other", s.told(1, 4), 2);
    d.due("TRUST of the other", s.told(1, 5), 3);
  }

  private static void book() {
    d.promise(20, "book");
    StoneSheets s = new StoneSheets();
    Due.laid(s, 0, "1111", 14);
    Due.laid(s, 5, "00", 0);
    s.rubbing(0, 0, 8);
    s.set(2, 5, 9);
    d.due("book(0)", s.book(0), 0);
    d.due("book(1)", s.book(1), 109);
    d.due("book(2)", s.book(2), Due.set(0, 1));
    d.due("book(3)", s.book(3), 65535 - Due.set(14, 15, 0, 1));
    s.seed(Due.seedFor(0, 1, 0));
    s.tides(3);
    d.due("book(0) once one is out", s.book(0), 1);
    d.due("book(1) then", s.book(1), 59);
    d.due("book(2) then", s.book(2), Due.set(0));
    d.due("book(3) then", s.book(3), 65535 - Due.set(14, 15));
    d.due("book(4)", s.book(4), Due.BAD);
    d.due("book(-1)", s.book(-1), Due.BAD);
  }

  private static void behind() {
    d.promise(21, "behind");
    StoneSheets s = new StoneSheets();
    Due.laid(s, 5, "00", 0);
    Due.laid(s, 0, "0", 0);
    s.seed(Due.seedFor(0, 1, 0));
    for (int again = 0; again < 2; again++) {
      d.due("behind(0, 0)", s.behind(0, 0), 100);
      d.due("behind(0, 1)", s.behind(0, 1), 3);
      d.due("behind(0, 2)", s.behind(0, 2), 0);
      d.due("behind(2, 0)", s.behind(2, 0), 10 + 53);
      d.due("behind(3, 0)", s.behind(3, 0), 0 + 56);
      d.due("behind(3, 1)", s.behind(3, 1), 2);
      d.due("behind(3, 2)", s.behind(3, 2), 1);
      d.due("behind(3, 3)", s.behind(3, 3), 0);
      d.due("behind(3, 4)", s.behind(3, 4), 56);
    }
    d.due("nothing changes: TRUST", s.book(1), 100);
    d.due("nothing changes: THE TIDE", s.count(1), 0);
    d.due("nothing changes: LAID", s.book(2), 3);
    d.due("nothing changes: z", s.seed(4), Due.seedFor(0, 1, 0));
    d.due("behind(3, 5)", s.behind(3, 5), Due.BAD);
    d.due("behind(3, -1)", s.behind(3, -1), Due.BAD);
    d.due("behind(-1, 0)", s.behind(-1, 0), Due.BAD);
    d.due("behind(101, 0)", s.behind(101, 0), Due.BAD);
    d.due("behind(100, 2) runs", s.behind(100, 2), 1);
  }

  private static void lasts() {
    d.promise(22, "lasts");
    StoneSheets s = new StoneSheets();
    d.due("of none", s.lasts(), 0);
    s.rubbing(5, 0, 8);
    d.due("of one that is LAID nowhere", s.lasts(), 0);
    s.set(0, 4, 5);
    s.seed(Due.seedFor(11, 5, 13, 9));
    d.due("out behind the fourth", s.lasts(), 4);
    s.set(0, 5, 20);
    d.due("out behind the first", s.lasts(), 1);
    Due.laid(s, 0, "00000000", 0);
    d.due("one that stays", s.lasts(), Due.NONE);
    d.due("nothing changes", s.count(1), 0);
    StoneSheets t = new StoneSheets();
    t.rubbing(2, 0, 1);
    t.carve(3, 1);
    t.set(0, 4, 3);
    t.set(0, 5, 54);
    for (int bound = 299; bound <= 301; bound++) {
      t.seed(eighteenthAt(3, bound));
      d.due("out behind " + bound, t.lasts(), bound > 300 ? Due.NONE : bound);
    }
  }

  /** A z from which place x comes for the eighteenth time in just so many draws (54 is 18 times 3). */
  private static int eighteenthAt(int x, int draws) {
    for (int z = 0; ; z++) {
      int at = z, came = 0, n = 0;
      while (came < 18) {
        at = at * 1103515245 + 12345;
        if ((at >>> 8) % 16 == x) came++;
        n++;
      }
      if (n == draws) return z;
    }
  }

  private static void best() {
    d.promise(23, "best");
    StoneSheets s = new StoneSheets();
    s.rubbing(0, Due.raw("12"), 2);
    s.carve(9, 1);
    s.carve(10, 2);
    s.seed(Due.seedFor(9, 10, 3));
    d.due("best(0, 3, 0)", s.best(0, 3, 0), 9);
    d.due("best(0, 3, 1)", s.best(0, 3, 1), 56);
    d.due("best(0, 1, 0)", s.best(0, 1, 0), 9);
    d.due("best(0, 1, 1)", s.best(0, 1, 1), 53);
    s.seed(Due.seedFor(0));
    d.due("of several the least", s.best(0, 1, 0), 1);
    d.due("TRUST there", s.best(0, 1, 1), 50);
    d.due("it stays where it is", s.told(0, 4), 16);
    s.set(0, 5, 3);
    s.carve(0, 3);
    Due.text(s, "gain l * 3");
    s.seed(Due.seedFor(10));
    d.due("by a TEXT that knows where it lies", s.best(0, 1, 1), 30);
    s.rubbing(5, 0, 8);
    s.set(1, 5, 20);
    s.seed(Due.seedFor(14, 15));
    d.due("none beyond the wall counts", s.best(1, 2, 0), 0);
    s.seed(Due.seedFor(7, 15));
    d.due("nowhere is no place", s.best(1, 2, 1), 0);
    d.due("all alike: the least", s.best(1, 2, 0), 0);
    d.due("best(2, 1, 0)", s.best(2, 1, 0), Due.BAD);
    d.due("best(-1, 1, 0)", s.best(-1, 1, 0), Due.BAD);
    d.due("best(0, 0, 0)", s.best(0, 0, 0), Due.BAD);
    d.due("best(0, 61, 0)", s.best(0, 61, 0), Due.BAD);
    d.due("best(0, 60, 2)", s.best(0, 60, 2), Due.BAD);
    d.due("best(0, 60, -1)", s.best(0, 60, -1), Due.BAD);
    d.due("best(0, 60, 1) runs", s.best(0, 60, 1) >= 0 ? 1 : 0, 1);
  }

  private static void taught() {
    d.promise(24, "taught");
    StoneSheets s = new StoneSheets();
    d.due("of none, where", s.taught(5, 0), 0);
    d.due("of none, TRUST", s.taught(5, 1), 0);
    Due.laid(s, 0, "1", 6);
    Due.laid(s, 0, "0", 9);
    s.carve(9, 3);
    s.seed(Due.seedFor(6, 9, 6));
    d.due("taught(1, 0)", s.taught(1, 0), 6);
    d.due("taught(1, 1)", s.taught(1, 1), 103);
    d.due("taught(3, 0)", s.taught(3, 0), 6);
    d.due("taught(3, 1)", s.taught(3, 1), 56 + 45);
    s.set(0, 4, 16);
    d.due("3 becomes 0", s.taught(3, 0), 9);
    d.due("TRUST then", s.taught(3, 1), 103);
    d.due("nothing changes: a MARK", s.carved(9), 3);
    s.set(1, 4, 16);
    d.due("of several the least", s.taught(60, 0), 0);
    d.due("taught(0, 0)", s.taught(0, 0), Due.BAD);
    d.due("taught(61, 0)", s.taught(61, 0), Due.BAD);
    d.due("taught(1, 2)", s.taught(1, 2), Due.BAD);
    d.due("taught(1, -1)", s.taught(1, -1), Due.BAD);
  }

  private static void whose() {
    d.promise(25, "whose");
    StoneSheets s = new StoneSheets();
    d.due("MISSING", s.whose(0, 0), Due.NOTHING);
    s.sheet(0, 1, 4);
    d.due("no RUBBINGS", s.whose(0, 0), Due.NONE);
    d.due("no RUBBINGS, what 1", s.whose(0, 1), Due.NONE);
    s.rubbing(0, Due.raw("3333"), 4);
    s.rubbing(0, Due.raw("1233"), 2);
    s.rubbing(0, Due.raw("1200"), 4);
    s.mark(0, 0, 1);
    s.mark(0, 1, 2);
    d.due("of several the least (beyond SIZE: 0)", s.whose(0, 0), 1);
    d.due("no difference", s.whose(0, 1), 0);
    s.mark(0, 0, -2);
    d.due("signs left out", s.whose(0, 1), 3);
    s.mark(0, 2, 3);
    s.mark(0, 3, 3);
    d.due("beyond SIZE it SAYS 0", s.whose(0, 0), 0);
    d.due("differences: 5 and 1", s.whose(0, 1), 6);
    s.mark(0, 0, Due.NONE);
    s.mark(0, 2, Due.NONE);
    s.mark(0, 3, Due.NONE);
    d.due("places that are no numbers", s.whose(0, 0), 1);
    s.turns(0, 5);
    d.due("as it SAYS", s.whose(0, 0), 0);
    s.sheet(1, 0, 0);
    d.due("a SHEET without places", s.whose(1, 0), 0);
    d.due("whose(4, 0)", s.whose(4, 0), Due.BAD);
    d.due("whose(-1, 0)", s.whose(-1, 0), Due.BAD);
    d.due("whose(0, 2)", s.whose(0, 2), Due.BAD);
    d.due("whose(2, -1)", s.whose(2, -1), Due.BAD);
  }

  private static void feeAndFine() {
    d.promise(26, "fee");
    StoneSheets s = new StoneSheets();
    d.due("fee() at first", s.fee(), 0);
    Due.laid(s, 5, "00", 0);
    s.set(0, 5, 20);
    s.seed(Due.seedFor(0));
    s.tides(1);
    d.due("fee() without a TEXT: FOUND", s.fee(), 1);
    Due.text(s, "fee n * 100 + f * 7 - 4000");
    s.tides(2);
    d.due("fee() by a TEXT", s.fee(), 307 - 4000);
    d.promise(27, "fine");
    s.set(0, 5, 33);
    d.due("fine(0) without a TEXT: TRUST", s.fine(0), 33);
    Due.text(s, "fine t * s - 9999");
    d.due("fine(0) by a TEXT", s.fine(0), 66 - 9999);
    d.due("fine(1)", s.fine(1), Due.BAD);
    d.due("fine(-1)", s.fine(-1), Due.BAD);
  }

  public static void main(String[] args) {
    tides();
    theLastTide();
    trustOfNothing();
    book();
    behind();
    lasts();
    best();
    taught();
    whose();
    feeAndFine();
    d.end();
  }
}
