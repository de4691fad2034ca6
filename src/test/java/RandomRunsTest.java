import java.util.ArrayList;
import java.util.List;
import java.util.Random;

/** Runs of 512 calls drawn by a seed, each answer held against the Model's. First argument: how many runs; second: the first seed. */
public final class RandomRunsTest {
  private static final int CALLS = 512;
  private static final int[] EDGES = {Integer.MIN_VALUE, Integer.MAX_VALUE, Integer.MIN_VALUE + 1, -1, 0, 1, 24, 25, 99, 100, 65535, 65536, -1000000005, 99999, 100000, -99999, -100000, 32768, -32769};

  private final Random random;
  private final Model model = new Model();
  private final Caller caller = new Caller(new StoneSheets());
  private final List<String> told = new ArrayList<>();
  private int calls = 0;
  private boolean wrong = false;

  private RandomRunsTest(long seed) { random = new Random(seed); }

  private int below(int n) { return random.nextInt(n); }
  private int between(int least, int most) { return least + below(most - least + 1); }

  private void call(String name, int... a) {
    if (calls == CALLS || wrong) return;
    calls++;
    int got = caller.call(name, a);
    int due = model.call(name, a);
    told.add(Caller.told(name, a) + " -> " + got);
    if (got != due) { wrong = true; told.add("due is " + due); }
  }

  /** Mostly one within its bounds, sometimes one right beyond them, seldom an edge of the ints. */
  private int drawn(String kind) {
    int odd = below(100);
    if (odd < 2) return EDGES[below(EDGES.length)];
    boolean beyond = odd < 6;
    switch (kind) {
      case "kind": return beyond ? (below(2) == 0 ? -1 : 6) : below(6);
      case "raw": return beyond ? (below(2) == 0 ? -1 : 65536) : below(65536);
      case "size": return beyond ? (below(2) == 0 ? 0 : 9) : between(1, 8);
      case "stone": return beyond ? between(-1, 10) : below(Math.max(1, model.now.stones.size()));
      case "place": return beyond ? (below(2) == 0 ? -1 : 16) : below(16);
      case "place8": return beyond ? between(-1, 9) : below(4);
      case "mark": return beyond ? (below(2) == 0 ? -1 : 4) : below(4);
      case "value": return below(8) == 0 ? below(65536) : below(4) == 0 ? between(-1, 100) : below(3) == 0 ? below(2) : between(0, 17);
      case "few": return beyond ? (below(2) == 0 ? 0 : 10) : between(1, 9);
      case "hundred": return beyond ? (below(2) == 0 ? 0 : 101) : below(3) == 0 ? between(1, 100) : between(1, 12);
      case "sixty": return beyond ? (below(2) == 0 ? 0 : 61) : below(3) == 0 ? between(1, 60) : between(1, 9);
      case "thirty": return beyond ? (below(2) == 0 ? 0 : 31) : between(1, 30);
      case "behind": return below(3 + model.now.stones.size() + 1);
      case "bytes": return beyond ? -1 : below(Math.max(1, model.tape.length() + 2));
      case "text": return beyond ? -1 : below(model.now.texts.size() + 1);
      case "sheet": return beyond ? (below(2) == 0 ? -1 : 4) : below(4);
      case "sort": return beyond ? (below(2) == 0 ? -2 : 2) : below(8) == 0 ? -1 : below(2);
      case "length": return beyond ? between(-2, 26) : below(25);
      case "row": return beyond ? between(-2, 25) : below(12);
      case "number": return below(6) == 0 ? Model.NONE : below(3) == 0 ? between(-100001, 100001) : between(-1, 99);
      case "slot": return beyond ? (below(2) == 0 ? -1 : 5) : below(5);
      case "any": return below(2) == 0 ? between(-20, 20) : random.nextInt();
      default: return beyond ? between(-1, 11) : below(Integer.parseInt(kind.substring(4)));
    }
  }

  // ---- texts

  private String sentence(int depth, String names) {
    int pieces = 1 + below(3);
    StringBuilder s = new StringBuilder(piece(depth, names));
    for (int i = 1; i < pieces; i++) s.append(blank()).append("|&<=>+-*/".charAt(below(9))).append(blank()).append(piece(depth, names));
    return s.toString();
  }

  private String piece(int depth, String names) {
    int which = below(10);
    if (which < 4) return String.valueOf(names.charAt(below(names.length())));
    if (which < 7 || depth == 0) return String.valueOf(below(3) == 0 ? below(12000) : below(12));
    if (which < 8) return "!" + blank() + piece(depth - 1, names);
    return "(" + blank() + sentence(depth - 1, names) + blank() + ")";
  }

  private String blank() { return below(5) == 0 ? " " : ""; }

  private String text() {
    int key = below(3);
    String names = new String[] {"tsl", "nf", "ts"}[key];
    StringBuilder s = new StringBuilder(blank() + new String[] {"gain", "fee", "fine"}[key] + (below(20) == 0 ? "" : " ") + sentence(below(4), names) + blank());
    if (below(12) == 0) for (int i = below(12); i >= 0; i--) s.insert(Math.min(s.length(), 5), below(3) == 0 ? '(' : '!');
    int changes = below(3) == 0 ? 1 + below(2) : 0;
    for (int i = 0; i < changes && s.length() > 0; i++) {
      int at = below(s.length());
      char c = "tslnfge019 ()!|&<=>+-*/".charAt(below(23));
      if (below(40) == 0) c = (char) below(256);
      if (below(3) == 0) s.deleteCharAt(at); else if (below(2) == 0) s.setCharAt(at, c); else s.insert(at, c);
    }
    return s.length() > 96 ? s.substring(0, 96) : s.toString();
  }

  private void tellText(String s) {
    call("trim", 0);
    for (int i = 0; i < s.length(); i += 12) {
      int[] three = new int[3];
      for (int j = 0; j < 12; j++) three[j / 4] |= (i + j < s.length() ? s.charAt(i + j) : 0) << 8 * (3 - j % 4);
      call("feed", three);
    }
    call("trim", s.length());
    call("text");
  }

  // ---- rows that are right, or nearly

  private void tellTides() {
    if (model.image == null) { call("keep"); return; }
    int n = between(1, below(2) == 0 ? 30 : 5);
    Model.State s = model.image.again();
    List<Integer> due = new ArrayList<>();
    for (int i = 0; i < n && s.tide < 9999; i++) { s.tide(); due.add(s.trust()); due.add(Integer.bitCount(s.laid())); }
    if (below(3) == 0 && !due.isEmpty()) { int at = below(due.size()); due.set(at, due.get(at) + 1); }
    if (below(5) == 0 && !due.isEmpty()) due.remove(due.size() - 1);
    if (below(5) == 0) due.add(below(100));
    call("count", 4);
    if (!model.waiting.isEmpty()) call("check", 1);
    for (int v : due) call("tell", v);
    call("check", n);
  }

  private void tellSheetOfTrust() {
    int k = below(4);
    call("sheet", k, below(2), Math.min(24, model.now.stones.size() + below(3)));
    for (int i = 0; i < model.now.stones.size() && below(12) > 0; i++) call("mark", k, i, model.now.stones.get(i).trust);
    call("reads", k);
  }

  private void step(String[] names) {
    int which = below(100);
    if (which < 4) tellText(text());
    else if (which < 5) tellTides();
    else if (which < 6) tellSheetOfTrust();
    else if (which < 14) call("set", drawn("stone"), 4, below(17));
    else if (which < 17) call("carve", below(16), below(4));
    else {
      String name = names[below(names.length)];
      String[] kinds = Caller.FACE.get(name);
      int[] a = new int[kinds.length];
      for (int i = 0; i < a.length; i++) a[i] = drawn(kinds[i]);
      call(name, a);
    }
  }

  private boolean goesWell() {
    String[] names = Caller.FACE.keySet().toArray(new String[0]);
    if (below(2) == 0) call("seed", random.nextInt());
    if (below(3) > 0) call("deal", between(1, 9));
    for (int k = 0; k < 9; k++) if (below(3) > 0) call("set", k, 4, below(17));
    if (below(25) == 0) for (int i = 0; i < 100; i++) call("tides", i == 99 ? between(80, 100) : 100);
    while (calls < CALLS && !wrong) step(names);
    return !wrong;
  }

  public static void main(String[] args) {
    int runs = args.length > 0 ? Integer.parseInt(args[0]) : 400;
    long first = args.length > 1 ? Long.parseLong(args[1]) : 1;
    int failed = 0;
    for (long seed = first; seed < first + runs && failed < 3; seed++) {
      RandomRunsTest run = new RandomRunsTest(seed);
      if (run.goesWell()) continue;
      failed++;
      System.out.println("seed " + seed + ", call " + run.calls + ":");
      for (String row : run.told.subList(Math.max(0, run.told.size() - 25), run.told.size())) System.out.println("  " + row);
    }
    System.out.println("RandomRunsTest: " + (failed == 0 ? runs + " runs as the Model's" : failed + " runs go otherwise"));
    if (failed > 0) System.exit(1);
  }
}
