import java.util.ArrayList;
import java.util.List;

/**
 * Every argument of every call at its bounds: the last value that is taken on each side is answered as the Model does, and
 * leaves all as the Model does; the first that is refused, and the ends of the ints, are BAD and change nothing. Then all
 * other refusals, each alone and where several fit: the one that stands first, and nothing changes.
 */
public final class BoundsTest {
  private static final Due d = new Due("BoundsTest");

  /** Three RUBBINGS (of SIZES 4, 3, 8), one of each thing in SHEETS and SLOTS, an IMAGE, and what has changed since. */
  private static final String STATE = """
      rubbing 0 27 4
      rubbing 1 228 3
      rubbing 4 40961 8
      set 0 4 2
      set 1 4 14
      set 1 3 1
      set 2 4 0
      set 2 5 20
      carve 3 2
      carve 15 1
      text gain t / 9
      text fee n * 10 + f
      seed 77
      tides 3
      keep
      set 0 5 60
      set 2 5 97
      carve 0 3
      turns 1 3
      text fine t * s
      tides 2
      sheet 0 1 5
      mark 0 0 60
      mark 0 1 NONE
      mark 0 2 -99999
      sheet 1 0 4
      mark 1 3 -5
      sheet 2 0 0
      lay 0 1 1
      lay 1 2 0
      lay 2 3 -17
      lay 3 2 1
      """;

  /** What is used up by being read comes last, so that it can be left out. */
  private static final String TAPE = "tape fee 12 + n\n";
  private static final String WAITING = told(2);
  private static final String RICH = STATE + TAPE + WAITING;
  private static final List<String> ASKING = List.of("told", "says", "as", "carved", "falseAt", "fits", "join", "clash", "undone", "borne", "look",
      "book", "behind", "lasts", "best", "taught", "whose", "fee", "fine", "textTold", "why", "reads", "ask", "item", "rest", "count");

  /** The numbers that are right for so many TIDES of the IMAGE in STATE. */
  private static String told(int tides) {
    Model m = new Model();
    new Script(d, m).run(STATE);
    Model.State s = m.image.again();
    StringBuilder rows = new StringBuilder();
    for (int i = 0; i < tides; i++) {
      s.tide();
      rows.append("tell ").append(s.trust()).append("\ntell ").append(Integer.bitCount(s.laid())).append('\n');
    }
    return rows.toString();
  }

  private static Caller object(String setup) {
    Caller c = new Caller(new StoneSheets());
    new Script(d, c).run(setup);
    return c;
  }

  private static Model model(String setup) {
    Model m = new Model();
    new Script(d, m).run(setup);
    return m;
  }

  /** How many TIDES the numbers that wait are of. */
  private static int tides(String setup) { return Math.max(1, (setup.split("tell ").length - 1) / 2); }

  private static void same(String what, String got, String due) {
    if (got.equals(due)) { d.due(what, 0, 0); return; }
    String[] g = got.split("\n"), w = due.split("\n");
    int i = 0;
    while (i < g.length && i < w.length && g[i].equals(w[i])) i++;
    d.due(what, i < g.length ? g[i] : "no more", i < w.length ? w[i] : "no more");
  }

  /** Told of an object that is used for 512 calls at most. */
  private static String whole(Caller c, String setup) {
    String whole = Whole.of(c, tides(setup));
    if (c.calls > 512) d.due("calls of one object, up to 512", c.calls, 512);
    return whole;
  }

  /** A call that is refused, or only asks: it answers so, and leaves all as it would be without it, by another setup. */
  private static void leaves(String setup, String then, int due, String name, int... a) {
    Caller c = object(setup);
    String call = Caller.told(name, a);
    d.due(call, c.call(name, a), due);
    same(call + " leaves", whole(c, setup), whole(object(then), setup));
  }

  /** Rows "call => answer", each on an object of its own that is left as by the other setup. */
  private static void leaves(String setup, String then, String rows) {
    for (String row : rows.split("\n")) {
      String[] sides = row.strip().split(" => ");
      String[] words = sides[0].split(" ");
      leaves(setup, then, Script.number(sides[1]), words[0], numbers(words));
    }
  }

  private static int[] numbers(String[] words) {
    int[] a = new int[words.length - 1];
    for (int i = 0; i < a.length; i++) a[i] = Script.number(words[i + 1]);
    return a;
  }

  private static void taken(String setup, String name, int... a) {
    Caller c = object(setup);
    Model m = model(setup);
    String call = Caller.told(name, a);
    int due = m.call(name, a);
    d.due(call, c.call(name, a), due);
    d.due(call + " is not BAD", due == Due.BAD ? 1 : 0, 0);
    String whole = whole(c, setup);
    same(call + " leaves", whole, Whole.of(m, tides(setup)));
    if (ASKING.contains(name)) same(call + " changes nothing", whole, whole(object(setup), setup));
  }

  /** "a:b" is an argument from a to b, ":b" one up to b, "a" just one that is tried with the others' bounds. */
  private static void bounds(String setup, String row) {
    String[] words = row.split(" ");
    int n = words.length - 1;
    int[] base = new int[n];
    for (int i = 0; i < n; i++) base[i] = Script.number(words[i + 1].split(":")[words[i + 1].startsWith(":") ? 1 : 0]);
    for (int i = 0; i < n; i++) {
      if (!words[i + 1].contains(":")) continue;
      String[] ends = words[i + 1].split(":");
      List<Integer> in = new ArrayList<>(), out = new ArrayList<>();
      int most = Script.number(ends[1]);
      in.add(most);
      out.add(most + 1);
      out.add(Integer.MAX_VALUE);
      if (!ends[0].isEmpty()) {
        int least = Script.number(ends[0]);
        in.add(least);
        out.add(least - 1);
        out.add(Integer.MIN_VALUE);
      }
      for (int v : in) taken(setup, words[0], with(base, i, v));
      for (int v : out) leaves(setup, words[0].equals("check") ? STATE + TAPE : setup, Due.BAD, words[0], with(base, i, v));
    }
  }

  private static int[] with(int[] base, int i, int v) {
    int[] a = base.clone();
    a[i] = v;
    return a;
  }

  private static void allBounds() {
    String[] rows = {
        "rubbing 0:5 0:65535 1:8", "told 0:2 0:9", "says 0:2 2", "says 0 0:3", "says 1 0:2", "says 2 0:7", "as 0:2 0:5", "turns 0:2 0:5",
        "set 0:2 1:5 1", "set 0 1 0:65535", "set 0 2 1:8", "set 0 3 0:1", "set 0 4 0:16", "set 0 5 0:99", "carve 0:15 0:3", "carved 0:15", "deal 1:9",
        "falseAt 0:2 0:15", "fits 0:2 0:1", "join 1:2 0 0:1", "join 0 1:2 0", "clash 1:2 0", "clash 0 1:2", "look 0:1",
        "tides 1:100", "book 0:3", "behind 0:100 0:5", "best 0:2 1:60 0:1", "taught 1:60 0:1", "whose 0:3 0:1", "fine 0:2",
        "trim 0:10", "textTold 0:2 0:1", "why 0:2", "sheet 0:3 0 :24", "sheet 3 -1:1 24", "mark 0:3 0 0", "mark 0 3 -99999:99999",
        "pour 0:3", "reads 0:3", "copy 0:3 0 0 1 1", "copy 0 0 0:3 1 1", "lay 0:4 0:3 2", "lay 0 1 0:2", "lay 1 2 0:3", "ask 0:4 0:5",
        "item 0:4 0", "rest 0:4 3", "check 1:30", "count 0:6"};
    for (String row : rows) bounds(RICH, row);
  }

  /** Where no value is BAD: the ends of the ints, and what lies near the document's numbers. */
  private static void noBounds() {
    String[] rows = {
        "lay 4 0 ?", "lay 4 3 ?", "seed ?", "tell ?", "mark 1 0 ?", "mark 1 3 ?", "sheet 0 -1 ?", "rest 2 ?", "copy 0 ? 0 1 1", "copy 0 0 0 ? 1", "copy 0 1 0 1 ?",
        "mark 0 ? 0", "mark 1 ? NONE", "item 1 ?", "feed ? 0 0", "feed 0 ? 0", "feed 0 0 ?"};
    String[] values = {"MIN", "NONE", "-32769", "-32768", "-2", "-1", "0", "1", "3", "4", "5", "6", "17", "24", "32767", "32768", "65536", "MAX"};
    for (String row : rows) for (String v : values) call(row.replace("?", v));
    for (String call : new String[] {"sheet 1 0 MIN", "sheet 1 1 -1", "sheet 1 1 0", "keep", "back", "undone", "borne", "lasts", "fee", "text"}) call(call);
  }

  private static void call(String row) {
    String[] words = row.split(" ");
    taken(RICH, words[0], numbers(words));
  }

  private static void findings() {
    leaves(RICH, RICH, """
        as 0 1 => KIND
        as 1 2 => KIND
        as 1 5 => KIND
        as 2 1 => KIND
        as 3 6 => BAD
        whose 3 0 => NOTHING
        whose 3 2 => BAD
        whose 4 2 => BAD
        sheet 0 0 -1 => SIZE
        sheet 0 1 MIN => SIZE
        sheet 3 0 -1 => SIZE
        sheet 0 2 -1 => BAD
        sheet 4 0 -1 => BAD
        sheet 4 -1 25 => BAD
        mark 3 0 0 => NOTHING
        mark 3 -1 100000 => NOTHING
        mark 3 0 NONE => NOTHING
        mark 4 -1 NONE => BAD
        mark 0 5 0 => INDEX
        mark 0 -1 0 => INDEX
        mark 0 5 100000 => INDEX
        mark 0 5 NONE => INDEX
        mark 1 4 NONE => INDEX
        mark 1 -1 NONE => INDEX
        mark 2 0 0 => INDEX
        mark 1 3 NONE => KIND
        mark 0 0 100000 => BAD
        mark 0 0 -100000 => BAD
        mark 0 1 BAD => BAD
        pour 3 => NOTHING
        reads 3 => NOTHING
        """);
    leaves(RICH, RICH, """
        copy 4 9 3 9 9 => BAD
        copy 3 9 4 9 9 => BAD
        copy 3 9 1 9 9 => NOTHING
        copy 1 9 3 9 9 => NOTHING
        copy 3 0 3 0 0 => NOTHING
        copy 0 0 1 0 1 => KIND
        copy 1 0 0 0 0 => KIND
        copy 0 9 1 -1 -1 => KIND
        copy 0 0 0 1 5 => INDEX
        copy 0 1 0 0 5 => INDEX
        copy 0 5 0 0 1 => INDEX
        copy 0 0 0 5 1 => INDEX
        copy 0 6 0 0 0 => INDEX
        copy 0 0 0 6 0 => INDEX
        copy 0 -1 0 0 1 => INDEX
        copy 0 0 0 -1 1 => INDEX
        copy 0 -1 0 0 0 => INDEX
        copy 0 0 0 0 -1 => INDEX
        copy 0 2 0 2 -1 => INDEX
        copy 0 0 0 0 6 => INDEX
        copy 1 3 2 0 1 => INDEX
        copy 2 0 1 0 1 => INDEX
        copy 0 1 0 1 MAX => INDEX
        copy 0 MAX 0 0 1 => INDEX
        copy 0 0 0 MAX 1 => INDEX
        copy 0 MAX 0 MAX MAX => INDEX
        copy 0 MIN 0 0 1 => INDEX
        copy 0 0 0 MIN 1 => INDEX
        copy 0 0 0 0 MIN => INDEX
        """);
    leaves(RICH, RICH, """
        lay 0 2 3 => NOTHING
        lay 4 2 3 => NOTHING
        lay 5 2 3 => BAD
        lay 0 4 0 => BAD
        lay 1 1 3 => BAD
        lay 2 1 -1 => BAD
        lay 3 2 4 => BAD
        ask 4 0 => NOTHING
        ask 4 6 => BAD
        ask 1 6 => BAD
        ask 1 0 => KIND
        ask 2 0 => KIND
        ask 0 2 => KIND
        ask 0 4 => KIND
        ask 0 5 => KIND
        item 5 0 => BAD
        item 4 0 => NOTHING
        item 4 -1 => NOTHING
        item 0 0 => KIND
        item 0 -1 => KIND
        item 2 99 => KIND
        item 1 5 => INDEX
        item 1 -1 => INDEX
        item 1 1 => KIND
        item 3 4 => INDEX
        rest 5 0 => BAD
        rest 4 0 => NOTHING
        rest 0 0 => KIND
        rest 1 7 => KIND
        rest 2 0 => NO
        join 0 0 0 => BAD
        join 2 2 1 => BAD
        clash 1 1 => BAD
        set 0 0 1 => BAD
        """);
  }

  private static void nothingAtAll() {
    leaves("", "", """
        told 0 0 => BAD
        says 0 0 => BAD
        as 0 0 => BAD
        turns 0 0 => BAD
        set 0 1 0 => BAD
        falseAt 0 0 => BAD
        fits 0 0 => BAD
        join 0 1 0 => BAD
        clash 0 1 => BAD
        undone => 0
        borne => 0
        look 0 => 0
        look 1 => 0
        behind 0 0 => 0
        behind 100 0 => 0
        behind 100 1 => 0
        behind 100 2 => 0
        behind 0 3 => BAD
        lasts => 0
        best 0 1 0 => BAD
        taught 60 0 => 0
        taught 60 1 => 0
        fee => 0
        fine 0 => BAD
        trim 0 => 0
        trim 1 => BAD
        text => -100
        textTold 0 0 => BAD
        why 0 => NONE
        why 1 => NONE
        why 2 => NONE
        whose 0 0 => NOTHING
        sheet 0 -1 0 => 0
        sheet 0 0 -1 => SIZE
        mark 0 0 0 => NOTHING
        pour 0 => NOTHING
        reads 0 => NOTHING
        copy 0 0 0 0 0 => NOTHING
        lay 0 0 0 => 0
        lay 0 1 0 => BAD
        lay 0 2 0 => NOTHING
        ask 0 0 => NOTHING
        item 0 0 => NOTHING
        rest 0 0 => NOTHING
        check 1 => NO
        check 30 => NO
        check 0 => BAD
        check 31 => BAD
        back => NO
        """);
    String sheets = "sheet 0 0 3\nsheet 1 1 0\nlay 0 2 1\n";
    leaves(sheets, sheets, """
        whose 0 0 => NONE
        whose 1 1 => NONE
        whose 0 2 => BAD
        whose 2 0 => NOTHING
        reads 0 => 0
        reads 1 => NONE
        pour 1 => 0
        mark 1 0 0 => INDEX
        copy 1 0 1 0 0 => 0
        copy 1 0 1 0 1 => INDEX
        item 0 0 => INDEX
        """);
    String some = "rubbing 1 5 3\nset 0 4 2\ncarve 2 3\ntext fee 5\ntides 2\n";
    leaves(some, some, "back => NO");
    leaves(some + "tell 5\ntell 6\n", some, "check 1 => NO\ncheck 30 => NO\ncheck 0 => BAD\ncheck 31 => BAD");
  }

  private static void asMuchAsThereIsRoomFor() {
    StringBuilder stones = new StringBuilder("seed 5\n"), texts = new StringBuilder("rubbing 1 9 2\nset 0 4 1\n");
    for (int k = 0; k < 9; k++) stones.append("rubbing ").append(k % 6).append(" ").append(1234 * k).append(" ").append(8 - k % 8).append("\nset ").append(k).append(" 4 ").append(k).append('\n');
    leaves(stones.toString(), stones.toString(), """
        rubbing 0 0 1 => FULL
        rubbing 5 65535 8 => FULL
        rubbing 6 0 1 => BAD
        rubbing 0 65536 1 => BAD
        rubbing 0 0 9 => BAD
        deal 1 => 0
        deal 9 => 0
        deal 10 => BAD
        told 9 0 => BAD
        behind 0 11 => 50
        behind 0 12 => BAD
        """);
    for (int k = 0; k < 14; k++) texts.append("text ").append(new String[] {"gain ", "fee ", "fine "}[k % 3]).append(k).append('\n');
    String all = texts.toString();
    leaves(all + "tape fee 99\n", all, "text => FULL");
    leaves(all + "tape fee 99 9\n", all, "text => -107");
    leaves(all + "feed 538976288 538976288 538976288\n", all, "text => -112");
    leaves(all, all, "text => -100\ntextTold 14 0 => BAD");
    leaves(RICH, RICH, "trim 11 => BAD");
    for (String fault : new String[] {"fee 1 1", "gain", "fine (t", "gains 1"}) {
      Caller c = object(STATE + "tape " + fault + "\n" + WAITING);
      d.due("the FAULT of " + fault, c.call("text") <= -100 ? 1 : 0, 1);
      same("text of " + fault + " leaves", whole(c, RICH), whole(object(STATE + WAITING), RICH));
    }
    String tape = "tape fee 1+1+1+1+1+1+1+1+1+1+1+1+1+1+1+1+1+1+1+1+1+1+1+1+1+1+1+1+1+1+1+1+1+1+1+1+1+1+1+1+1+1+1+1+1+1\n";
    leaves("rubbing 0 0 1\n" + tape, "rubbing 0 0 1\n" + tape, "feed 0 0 0 => FULL\nfeed 538976288 538976288 538976288 => FULL\ntrim 96 => BAD");
    leaves("rubbing 0 0 1\n" + tape + "trim 85\n", "rubbing 0 0 1\n" + tape + "trim 85\n", "feed 538976288 538976288 538976288 => FULL\ntrim 86 => BAD");
    String full = STATE + TAPE + told(30);
    leaves(full, full, "tell 0 => FULL\ntell MAX => FULL\ncount 4 => 60");
  }

  public static void main(String[] args) {
    allBounds();
    noBounds();
    findings();
    nothingAtAll();
    asMuchAsThereIsRoomFor();
    d.end();
  }
}
