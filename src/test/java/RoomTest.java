import java.lang.management.ManagementFactory;
import java.util.Random;

/** What a run makes: the object itself stays small, and its calls make nothing at all. */
public final class RoomTest {
  private static final Due d = new Due("RoomTest");

  private static long made() {
    return ((com.sun.management.ThreadMXBean) ManagementFactory.getThreadMXBean()).getThreadAllocatedBytes(Thread.currentThread().getId());
  }

  private static StoneSheets full() {
    StoneSheets s = new StoneSheets();
    s.deal(9);
    for (int k = 0; k < 9; k++) s.set(k, 4, k);
    Due.text(s, "gain ((t+1)*3 - s/2)*(l>3) + !!(t<9) + 1*1*1*1*1*1*1*1*1*1*1*1*1*1*1*1*1*1*1*1*1*1*1*1*1*1");
    s.sheet(0, 1, 24);
    s.sheet(1, 1, 24);
    s.keep();
    return s;
  }

  private static int work(StoneSheets s, int round) {
    int sum = s.taught(60, 0) + s.best(round % 9, 60, 1) + s.lasts() + s.undone() + s.borne() + s.look(0) + s.behind(100, 0);
    sum += s.fits(round % 9, 0) + s.join(0, 1, 0) + s.clash(0, 1) + s.whose(0, 0) + s.book(3) + s.fee() + s.fine(0) + s.told(0, 7);
    sum += s.sheet(2, 1, 24) + s.mark(0, 3, round) + s.pour(0) + s.reads(0) + s.copy(0, 1, 1, 3, 9) + s.lay(0, 2, 0) + s.lay(1, 1, 0) + s.ask(1, 0) + s.item(0, 1);
    sum += s.feed(0x66656520, 0x6e2b3120, 0x20202020) + s.text() + s.tell(round) + s.check(30) + s.keep() + s.tides(1) + s.back() + s.deal(9);
    return sum;
  }

  /** Calls must end soon, too, for whatever they are asked. */
  private static int anything(StoneSheets s, Random random) {
    int sum = 0;
    Caller caller = new Caller(s);
    for (int i = 0; i < 512; i++) {
      int which = random.nextInt(Caller.FACE.size());
      String name = Caller.FACE.keySet().toArray(new String[0])[which];
      int[] a = new int[Caller.FACE.get(name).length];
      for (int k = 0; k < a.length; k++) a[k] = random.nextInt(4) == 0 ? random.nextInt() : random.nextInt(20) - 4;
      sum += caller.call(name, a);
    }
    return sum;
  }

  /** The least of several measurings: the machine's own work falls into some of them. */
  private static long calls(StoneSheets s, int rounds) {
    long least = Long.MAX_VALUE;
    for (int again = 0; again < 5; again++) {
      long before = made();
      for (int i = 0; i < rounds; i++) work(s, i);
      least = Math.min(least, made() - before);
    }
    return least;
  }

  public static void main(String[] args) {
    StoneSheets warm = full();
    int sum = 0;
    for (int i = 0; i < 200; i++) sum += work(warm, i);
    long before = made();
    StoneSheets s = full();
    long object = made() - before;
    d.due("bytes of a new object and a helper's texts, below 40000", object < 40000 ? 0 : object, 0);
    work(s, 0);
    d.due("bytes that its calls make, more than measuring does", calls(s, 15) <= calls(s, 0) ? 0 : 1, 0);
    for (int i = 0; i < 300; i++) sum += anything(i % 2 == 0 ? new StoneSheets() : full(), new Random(i));
    System.out.println("RoomTest: " + object + " bytes an object (" + sum + ")");
    d.end();
  }
}
