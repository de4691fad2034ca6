/** Sections 1 to 3 of the document, a sentence that names a bound after the other; SentencesTest2 has the rest. */
public final class SentencesTest {
  private static final Due d = new Due("SentencesTest");

  /** Rows of calls on a new object, under the sentence that they hold to. */
  private static void holds(String sentence, String rows) {
    d.sentence(sentence);
    Script.of(d, rows);
  }

  private static String seed(int... places) { return "seed " + Due.seedFor(places) + "\n"; }

  private static void terms() {
    holds("used for at most 512 calls", """
        rubbing 5 0 8 => 0
        set 0 4 0 => 16
        set 0 5 99 => 50
        taught 60 1 x508 => 0
        count 6 => 1
        """);
    holds("used for at most 512 calls, and each is answered", """
        keep => 0
        tell 5 x60 => 60
        tell 5 => FULL
        feed 0 0 0 x8 => 96
        feed 0 0 0 => FULL
        deal 9 => 9
        tides 100 x99 => 0
        tides 99 => 0
        tides 1 => 0
        count 1 => 9999
        undone x300 => 0
        count 4 => 60
        count 5 => 96
        back => 0
        count 1 => 0
        """);
    holds("/ cuts towards 0", """
        rubbing 2 0 5
        told 0 7 => 1
        text fee (0 - 7) / 2 => 0
        fee => -3
        text fee 7 / (0 - 2)
        fee => -3
        text fee (0 - 7) / (0 - 2)
        fee => 3
        text fee (0 - 1) / 2
        fee => 0
        text fee 9999 / 5000
        fee => 1
        """);
    holds("Sets of RUBBINGS, of places are told as bits (bit k for number k)", """
        book 2 => 0
        book 3 => 65535
        rubbing 0 0 8 x9 => 8
        set 8 4 8 => 16
        set 0 4 0 => 16
        book 2 => 257
        book 3 => 0
        told 8 6 => 65280
        told 0 6 => 255
        """);
  }

  private static void wall() {
    holds("THE WALL has places 0 .. 15, each with a MARK 0 .. 3 (0 at first)", """
        carved* => 0000000000000000
        carve 0 3 => 0
        carve 15 3 => 0
        carved* => 3000000000000003
        carve 0 0 => 3
        carve 15 1 => 3
        carve 7 2 => 0
        carve 0 -1 => BAD
        carve 0 4 => BAD
        carve -1 0 => BAD
        carve 16 0 => BAD
        carve MIN 1 => BAD
        carve 1 MAX => BAD
        carved 0 => 0
        carved 15 => 1
        carved -1 => BAD
        carved 16 => BAD
        carved* => 0000000200000001
        """);
    holds("RUBBINGS, 9 at most, numbered from 0", """
        rubbing 0 1 1 => 0
        rubbing 0 1 1 => 1
        rubbing 0 1 1 x6 => 7
        rubbing 0 1 1 => 8
        rubbing 0 1 1 => FULL
        count 0 => 9
        told 8 1 => 1
        told 9 1 => BAD
        told -1 1 => BAD
        deal 1 => 0
        """);
    holds("RAW 0 .. 65535 (eight marks of two bits each: that of place p is RAW / 4 to the p, its rest by 4)", """
        rubbing 0 0 8 => 0
        rubbing 0 65535 8 => 1
        rubbing 0 1 8 => 2
        rubbing 0 3 8 => 3
        rubbing 0 4 8 => 4
        rubbing 0 16384 8 => 5
        rubbing 0 49152 8 => 6
        rubbing 0 58596 8 => 7
        says* 0 => 00000000
        says* 1 => 33333333
        says* 2 => 10000000
        says* 3 => 30000000
        says* 4 => 01000000
        says* 5 => 00000001
        says* 6 => 00000003
        says* 7 => 01230123
        set 0 1 65535 => 0
        set 0 1 65536 => BAD
        set 0 1 -1 => BAD
        set 0 1 0 => 65535
        rubbing 0 -1 8 => BAD
        rubbing 0 65536 8 => BAD
        count 0 => 8
        """);
    holds("SIZE 1 .. 8 (how many of these count, from place 0 on)", """
        rubbing 0 58597 1 => 0
        says* 0 => 1
        says 0 1 => BAD
        set 0 2 8 => 1
        says* 0 => 11230123
        says 0 7 => 3
        says 0 8 => BAD
        set 0 2 5 => 8
        says* 0 => 11230
        says 0 4 => 0
        says 0 5 => BAD
        says 0 -1 => BAD
        set 0 2 0 => BAD
        set 0 2 9 => BAD
        told 0 2 => 5
        told 0 1 => 58597
        rubbing 0 0 0 => BAD
        rubbing 0 0 9 => BAD
        count 0 => 1
        """);
    holds("TURNED 0 or 1 (0 at first); LAID 0 .. 15 or 16 (nowhere; at first); TRUST 0 .. 99 (50 at first)", """
        rubbing 0 0 1 => 0
        told 0 3 => 0
        told 0 4 => 16
        told 0 5 => 50
        set 0 3 1 => 0
        set 0 3 2 => BAD
        set 0 3 -1 => BAD
        set 0 3 0 => 1
        set 0 4 15 => 16
        set 0 4 0 => 15
        set 0 4 16 => 0
        set 0 4 17 => BAD
        set 0 4 -1 => BAD
        set 0 5 99 => 50
        set 0 5 0 => 99
        set 0 5 100 => BAD
        set 0 5 -1 => BAD
        told 0 3 => 0
        told 0 4 => 16
        told 0 5 => 0
        set 0 0 0 => BAD
        set 0 6 0 => BAD
        """);
    holds("KINDS: 0 RUBBING; 1 BOLD, 2 FAINT, 5 MADE, under RUBBING; 3 TWICE, under BOLD; 4 CRACKED, under FAINT", """
        rubbing 3 0 7 => 0
        rubbing 4 0 6 => 1
        rubbing 5 0 8 => 2
        rubbing 6 0 1 => BAD
        rubbing -1 0 1 => BAD
        as 0 0 => 7
        as 0 1 => 7
        as 0 2 => KIND
        as 0 3 => 7
        as 0 4 => KIND
        as 0 5 => KIND
        as 0 6 => BAD
        as 0 -1 => BAD
        as 1 0 => 6
        as 1 1 => KIND
        as 1 2 => 6
        as 1 3 => KIND
        as 1 4 => 6
        as 1 5 => KIND
        as 2 0 => 8
        as 2 1 => KIND
        as 2 2 => KIND
        as 2 5 => 8
        turns 0 1 => 3
        as 0 3 => KIND
        as 0 1 => 7
        turns 0 5 => 1
        turns 0 0 => 5
        as 0 1 => KIND
        as 0 5 => KIND
        turns 0 6 => BAD
        turns 0 -1 => BAD
        told 0 0 => 0
        """);
  }

  private static void says() {
    holds("the mark of RAW of place p, if it is TURNED of place SIZE less 1 less p", """
        rubbing 0 58596 8 => 0
        set 0 3 1
        says* 0 => 32103210
        set 0 2 3
        says* 0 => 210
        set 0 2 1
        says* 0 => 0
        set 0 1 58597
        says* 0 => 1
        set 0 3 0
        says* 0 => 1
        """);
    holds("and 1 more (3 at most), if that is above 0; less 1 (0 at least); MADE: 2", """
        rubbing 0 228 4
        says* 0 => 0123
        turns 0 1
        says* 0 => 0233
        turns 0 3
        says* 0 => 0333
        turns 0 2
        says* 0 => 0012
        turns 0 5
        says* 0 => 2222
        set 0 1 0
        says* 0 => 2222
        turns 0 1
        says* 0 => 0000
        turns 0 3
        says* 0 => 0000
        turns 0 2
        says* 0 => 0000
        set 0 1 255
        says* 0 => 2222
        turns 0 1
        says* 0 => 3333
        turns 0 3
        says* 0 => 3333
        """);
    holds("CRACKED: as FAINT, but 3 at the place SIZE / 2", """
        rubbing 4 0 1
        says* 0 => 3
        set 0 2 2
        says* 0 => 03
        set 0 2 3
        says* 0 => 030
        set 0 2 4
        says* 0 => 0030
        set 0 3 1
        says* 0 => 0030
        set 0 2 5
        says* 0 => 00300
        set 0 2 6
        says* 0 => 000300
        set 0 2 7
        says* 0 => 0003000
        set 0 2 8
        says* 0 => 00003000
        set 0 1 58596
        says* 0 => 21003100
        set 0 3 0
        says* 0 => 00123012
        """);
  }

  private static final String SIX = "rubbing 0 0 1\nrubbing 1 0 1\nrubbing 2 0 1\nrubbing 3 0 1\nrubbing 4 0 1\nrubbing 5 0 1\n";

  /** What told tells of the six KINDS. */
  private static String six(int what, int... answers) {
    StringBuilder rows = new StringBuilder();
    for (int k = 0; k < 6; k++) rows.append("told ").append(k).append(' ').append(what).append(" => ").append(answers[k]).append('\n');
    return rows.toString();
  }

  private static String trust(int v) {
    StringBuilder rows = new StringBuilder();
    for (int k = 0; k < 6; k++) rows.append("set ").append(k).append(" 5 ").append(v).append('\n');
    return rows.toString();
  }

  private static void gainsAndWorth() {
    holds("GAINS: RUBBING: what gain gives, held within 0 .. 99 (without a TEXT: 3)", SIX + six(7, 3, 4, 1, 4, 3, 0)
        + "text gain 0 => 0\n" + six(7, 0, 1, 0, 1, 2, 0)
        + "text gain 1 => 1\n" + six(7, 1, 2, 0, 2, 2, 0)
        + "text gain 99 => 2\n" + six(7, 99, 100, 49, 100, 51, 0)
        + "text gain 100 => 3\n" + six(7, 99, 100, 49, 100, 51, 0)
        + "text gain 98 => 4\n" + six(7, 98, 99, 49, 99, 51, 0)
        + "text gain 0-1 => 5\n" + six(7, 0, 1, 0, 1, 2, 0)
        + "text gain 0-9999 => 6\n" + six(7, 0, 1, 0, 1, 2, 0)
        + "text gain 9999*9999*21 => 7\n" + six(7, 99, 100, 49, 100, 51, 0)
        + "text gain 9999*9999*22 => 8\n" + six(7, 0, 1, 0, 1, 2, 0));
    holds("GAINS by names: t TRUST, s SIZE, l LAID", SIX + trust(0) + """
        text gain t
        told 0 7 => 0
        set 0 5 99
        told 0 7 => 99
        text gain s
        told 0 7 => 1
        set 0 2 8
        told 0 7 => 8
        text gain l
        told 0 7 => 16
        set 0 4 0
        told 0 7 => 0
        set 0 4 15
        told 0 7 => 15
        """);
    holds("LOSES", SIX + six(8, 5, 7, 3, 14, 3, 20) + trust(0) + "text gain 0\n" + six(8, 5, 7, 3, 14, 3, 20));
    holds("WORTH: twice as BOLD; 99 less TRUST; as FAINT, less 6", SIX + six(9, 50, 55, 49, 110, 43, 1)
        + trust(0) + six(9, 0, 5, 99, 10, 93, 1)
        + trust(99) + six(9, 99, 104, 0, 208, -6, 1));
  }

  private static void covers() {
    holds("It COVERS the places LAID .. LAID and SIZE, less 1, of THE WALL (those of them that there are; none, if it is LAID nowhere)", """
        rubbing 0 0 8
        told 0 6 => 0
        set 0 4 0
        told 0 6 => 255
        set 0 4 8
        told 0 6 => 65280
        set 0 4 9
        told 0 6 => 65024
        set 0 4 15
        told 0 6 => 32768
        book 3 => 32767
        set 0 2 1
        told 0 6 => 32768
        set 0 4 0
        told 0 6 => 1
        set 0 2 2
        told 0 6 => 3
        set 0 4 16
        told 0 6 => 0
        book 3 => 65535
        """);
    holds("Two CLASH, if there is a place that both COVER, of which they SAY otherwise", """
        rubbing 0 5 2
        rubbing 0 2 1
        clash 0 1 => 0
        set 0 4 0
        clash 0 1 => 0
        set 1 4 0
        clash 0 1 => 1
        clash 1 0 => 1
        set 1 4 1
        clash 0 1 => 1
        set 1 4 2
        clash 0 1 => 0
        set 1 1 1
        set 1 4 1
        clash 0 1 => 0
        turns 1 1
        clash 0 1 => 1
        set 0 4 16
        set 1 4 16
        clash 0 1 => 0
        rubbing 0 1 8
        rubbing 0 65533 8
        set 2 4 15
        set 3 4 15
        clash 2 3 => 0
        set 3 1 65534
        clash 2 3 => 1
        clash 3 3 => BAD
        clash 2 4 => BAD
        clash -1 2 => BAD
        """);
  }

  private static void tide() {
    holds("TRUST is by what it GAINS more (99 at most)", "rubbing 0 0 1\nset 0 4 15\n"
        + "set 0 5 95\n" + seed(15) + "tides 1 => 0\ntold 0 5 => 98\n"
        + "set 0 5 96\n" + seed(15) + "tides 1 => 0\ntold 0 5 => 99\n"
        + "set 0 5 97\n" + seed(15) + "tides 1 => 0\ntold 0 5 => 99\n"
        + "set 0 5 99\n" + seed(15) + "tides 1 => 0\ntold 0 5 => 99\n"
        + "set 0 5 0\n" + seed(15) + "tides 1 => 0\ntold 0 5 => 3\n"
        + "text gain 99\nset 0 5 0\n" + seed(15) + "tides 1 => 0\ntold 0 5 => 99\n"
        + "turns 0 1\nset 0 5 0\n" + seed(15) + "tides 1 => 0\ntold 0 5 => 99\n"
        + "turns 0 2\nset 0 5 0\n" + seed(15) + "tides 1 => 0\ntold 0 5 => 49\n"
        + "set 0 5 99\n" + seed(14) + "tides 1 => 0\ntold 0 5 => 99\nbook 0 => 0\n");
    holds("else TRUST is by what it LOSES less; if it is 0 or less then, TRUST is 0, it is LAID nowhere, FOUND is 1 more", "rubbing 0 0 1\nset 0 4 0\ncarve 0 1\n"
        + "set 0 5 6\n" + seed(0) + "tides 1 => 0\ntold 0 5 => 1\ntold 0 4 => 0\nbook 0 => 0\n"
        + "set 0 5 5\n" + seed(0) + "tides 1 => 1\ntold 0 5 => 0\ntold 0 4 => 16\nbook 0 => 1\n"
        + seed(0) + "tides 1 => 0\nbook 0 => 1\n"
        + "set 0 4 0\nset 0 5 4\n" + seed(0) + "tides 1 => 1\ntold 0 5 => 0\ntold 0 4 => 16\nbook 0 => 2\n"
        + "set 0 4 0\nset 0 5 0\n" + seed(0) + "tides 1 => 1\ntold 0 5 => 0\ntold 0 4 => 16\nbook 0 => 3\n"
        + "turns 0 3\nset 0 4 0\nset 0 5 15\n" + seed(0) + "tides 1 => 0\ntold 0 5 => 1\n"
        + "set 0 5 14\n" + seed(0) + "tides 1 => 1\ntold 0 4 => 16\n"
        + "turns 0 5\nset 0 4 0\nset 0 5 21\n" + seed(0) + "tides 1 => 0\ntold 0 5 => 1\n"
        + "set 0 5 20\n" + seed(0) + "tides 1 => 1\ntold 0 4 => 16\nbook 0 => 5\n");
    holds("Of each that COVERS x, by numbers", "rubbing 0 0 8 x9\n" + nine("set % 4 8") + nine("set % 5 5") + "carve 15 1\n" + seed(15)
        + "tides 1 => 9\nbook 0 => 9\nbook 1 => 0\nbook 2 => 0\n" + seed(15) + "tides 1 => 0\nbook 0 => 9\n");
    holds("Of each that COVERS x: over the edge, at both ends of it, and right beside it", "rubbing 0 0 8\nset 0 4 15\nrubbing 0 0 2\nset 1 4 3\n"
        + seed(0) + "tides 1\nbook 1 => 100\n" + seed(6) + "tides 1\nbook 1 => 100\n" + seed(2) + "tides 1\nbook 1 => 100\n" + seed(5) + "tides 1\nbook 1 => 100\n"
        + seed(3) + "tides 1\ntold 1 5 => 53\n" + seed(4) + "tides 1\ntold 1 5 => 56\n" + seed(15) + "tides 1\ntold 0 5 => 53\nbook 1 => 109\n");
    holds("THE TIDE (0 at first, 9999 at most) is 1 more", """
        count 1 => 0
        tides 100 x99
        count 1 => 9900
        tides 98 => 0
        count 1 => 9998
        seed 0
        tides 100 => 0
        count 1 => 9999
        seed 0 => 12345
        tides 1 => 0
        tides 100 => 0
        count 1 => 9999
        count 6 => 0
        """);
    holds("A draw: z becomes z * 1103515245 + 12345 (an int)", """
        count 6 => 1
        tides 1
        seed 0 => 1103527590
        tides 1
        seed -1 => 12345
        tides 1
        seed MAX => -1103502900
        tides 1
        seed MIN => 1043980748
        tides 1
        seed 1 => -2147471303
        tides 2
        count 6 => -1770082073
        """);
    holds("it gives z >>> 8; KIND the rest of a draw by 6, RAW that of one more by 65536, SIZE 1 and that of one more by 8", """
        seed 18
        deal 2 => 2
        told 0 0 => 3
        told 0 1 => 19185
        told 0 2 => 5
        told 1 0 => 3
        told 1 1 => 427
        told 1 2 => 5
        count 6 => -1482863604
        seed 1
        deal 9 => 7
        told 2 0 => 2
        told 2 1 => 32432
        told 2 2 => 5
        told 3 0 => 5
        told 3 1 => 19423
        told 4 0 => 4
        told 4 1 => 64430
        """);
  }

  /** A row for each of nine numbers. */
  private static String nine(String row) {
    StringBuilder rows = new StringBuilder();
    for (int k = 0; k < 9; k++) rows.append(row.replace("%", String.valueOf(k))).append('\n');
    return rows.toString();
  }

  private static void lies() {
    holds("FALSE of one at x: at how many of the places that it would COVER, LAID there, it SAYS otherwise than their MARKS", """
        rubbing 0 65535 8
        falseAt 0 0 => 8
        falseAt 0 8 => 8
        falseAt 0 9 => 7
        falseAt 0 14 => 2
        falseAt 0 15 => 1
        carve 15 3
        falseAt 0 15 => 0
        falseAt 0 8 => 7
        falseAt 0 7 => 8
        set 0 4 3
        falseAt 0 15 => 0
        falseAt 0 16 => BAD
        falseAt 0 -1 => BAD
        falseAt 0 MAX => BAD
        falseAt 1 0 => BAD
        falseAt -1 0 => BAD
        """);
    holds("FITS of one: the x 0 .. 16 less SIZE with the least FALSE; of several the least", """
        rubbing 0 3 1
        fits 0 0 => 0
        fits 0 1 => 1
        carve 15 3
        fits 0 0 => 15
        fits 0 1 => 0
        carve 0 3
        fits 0 0 => 0
        carve 0 0
        rubbing 0 15 2
        fits 1 0 => 14
        fits 1 1 => 1
        rubbing 0 49152 8
        fits 2 0 => 8
        fits 2 1 => 0
        carve 15 0
        carve 8 1
        rubbing 0 1 8
        fits 3 0 => 8
        carve 8 0
        carve 9 1
        fits 3 0 => 0
        fits 3 1 => 1
        fits 3 2 => BAD
        fits 3 -1 => BAD
        fits 4 0 => BAD
        """);
    holds("JOIN of two: d (0 .. SIZE of the first, less 1); of several the least d", """
        rubbing 0 49152 8
        rubbing 0 21847 8
        rubbing 0 3 1
        rubbing 0 0 8
        join 0 1 0 => 7
        join 0 1 1 => 1
        join 2 1 0 => 0
        join 2 1 1 => 1
        join 2 3 0 => 0
        join 2 3 1 => -2
        join 3 2 0 => 0
        join 3 2 1 => -2
        join 3 1 0 => 7
        join 3 1 1 => -2
        set 2 1 0
        join 3 2 0 => 0
        join 3 2 1 => 1
        join 0 3 0 => 0
        join 0 3 1 => 5
        join 3 3 0 => BAD
        join 3 4 0 => BAD
        join 4 3 0 => BAD
        join -1 0 0 => BAD
        join 0 1 2 => BAD
        join 0 1 -1 => BAD
        """);
    holds("UNDONE: of all sets ... that are LAID on THE WALL, without which no two of the others that are CLASH, one of the fewest; of several the least", "undone => 0\n"
        + "rubbing 0 0 1 x9\nundone => 0\n" + nine("set % 4 15") + "undone => 0\n" + "set 8 1 1\nundone => 256\nset 0 1 1\nundone => 257\n"
        + "set 1 1 1\nset 2 1 1\nundone => 263\nset 3 1 1\nundone => 240\nset 4 4 16\nundone => 224\nset 3 1 0\nundone => 232\nset 8 4 16\nset 0 4 16\nset 5 4 16\nundone => 6\nset 6 4 16\nundone => 6\n"
        + "set 7 4 16\nundone => 8\nset 3 4 16\nundone => 0\n");
    holds("UNDONE of nine, each against each", "rubbing 0 0 8 x9\n" + nine("set % 4 0") + nine("set % 1 %") + "undone => 255\n");
    holds("UNDONE of two among others, that CLASH with none", "rubbing 0 0 1 x6\n" + nine("set % 4 %") + "undone => 0\nset 1 1 1\nset 1 4 0\nundone => 1\nset 4 1 1\nset 4 4 3\nundone => 9\nset 1 4 5\nundone => 10\n");
    holds("UNDONE of nine, of which those that lie 5 apart do not CLASH", "rubbing 4 0 8 x9\n" + nine("set % 4 %") + "undone => 247\n");
    holds("BORNE: of all sets ... that are LAID on THE WALL, and together COVER what all COVER, one of the fewest; of several the least", "borne => 0\n"
        + "rubbing 0 0 1 x9\nborne => 0\n" + nine("set % 4 %") + "borne => 511\n" + nine("set % 4 15") + "borne => 1\nset 0 4 16\nborne => 2\n"
        + "set 8 2 8\nborne => 2\nset 8 4 14\nborne => 256\nset 1 4 0\nborne => 258\nset 2 4 0\nborne => 258\n");
    holds("OPEN: places that none COVERS", """
        book 3 => 65535
        rubbing 0 0 8
        rubbing 0 0 8
        book 3 => 65535
        set 0 4 0
        book 3 => 65280
        set 1 4 7
        book 3 => 32768
        set 1 4 8
        book 3 => 0
        set 1 4 9
        book 3 => 256
        """);
    holds("LOOK: the place at which most, of those that COVER it, SAY otherwise than its MARK; of several the least", "look 0 => 0\nlook 1 => 0\n"
        + "rubbing 0 1 1 x9\nlook 0 => 0\nlook 1 => 0\nset 0 4 15\nlook 0 => 15\nlook 1 => 1\nset 1 4 0\nlook 0 => 0\nlook 1 => 1\n"
        + nine("set % 4 15") + "look 0 => 15\nlook 1 => 9\ncarve 15 1\nlook 0 => 0\nlook 1 => 0\ncarve 15 2\nlook 1 => 9\nlook 2 => BAD\nlook -1 => BAD\n");
  }

  private static void thought() {
    holds("BEHIND n TIDES, z as it is; nothing changes", "rubbing 5 0 1\nset 0 4 15\nset 0 5 20\n" + seed(15)
        + "behind 0 0 => 20\nbehind 0 1 => 1\nbehind 0 2 => 0\nbehind 0 3 => 20\nbehind 1 0 => 0\nbehind 1 1 => 0\nbehind 1 2 => 1\nbehind 1 3 => 0\nbehind 100 2 => 1\n"
        + "behind 0 4 => BAD\nbehind 0 -1 => BAD\nbehind 0 MAX => BAD\nbehind 0 MIN => BAD\nbehind -1 0 => BAD\nbehind 101 0 => BAD\n"
        + "told 0 5 => 20\ntold 0 4 => 15\nbook 0 => 0\ncount 1 => 0\ncount 6 => " + Due.seedFor(15) + "\nrubbing 0 0 1 => 1\nbehind 0 4 => 50\nbehind 0 5 => BAD\n");
    holds("FOUND, BEHIND n TIDES, those before too", "rubbing 5 0 1\nset 0 4 15\nset 0 5 20\n" + seed(15) + "tides 1 => 1\nbehind 0 2 => 1\nset 0 4 0\nset 0 5 1\n" + seed(0) + "behind 1 2 => 2\nbook 0 => 1\n");
    holds("without the bound of THE TIDE", "tides 100 x99\ntides 99\ncount 1 => 9999\nrubbing 5 0 1\nset 0 4 15\nset 0 5 20\n" + seed(15)
        + "behind 1 0 => 0\nlasts => 1\nbest 0 1 0 => 0\nbest 0 1 1 => 20\nturns 0 0\nbest 0 1 0 => 15\nbest 0 1 1 => 23\nturns 0 5\ntaught 1 0 => 0\ntaught 1 1 => 0\ncarve 15 1\ntaught 1 0 => 15\ntaught 1 1 => 20\ntides 1 => 0\ntold 0 5 => 20\n");
    holds("LASTS: behind how many TIDES (0 .. 300) none is LAID on THE WALL first", "lasts => 0\nrubbing 5 0 8\nlasts => 0\nset 0 4 15\nset 0 5 20\n" + seed(15) + "lasts => 1\n"
        + seed(0, 15) + "lasts => 2\nset 0 5 21\nset 0 2 1\nset 0 4 0\n" + seed(0, 1, 0) + "lasts => 3\nrubbing 0 0 1\nlasts => 3\nset 1 4 5\nlasts => NONE\ncount 1 => 0\n");
    holds("BEST for one, n: the place 0 .. 15 LAID on which its TRUST is greatest behind n TIDES; of several the least", "rubbing 0 0 1\n" + seed(15)
        + "best 0 1 0 => 15\nbest 0 1 1 => 53\n" + seed(0) + "best 0 1 0 => 0\nbest 0 1 1 => 53\nset 0 1 1\nbest 0 1 0 => 1\nbest 0 1 1 => 50\nset 0 2 8\nset 0 1 65535\n"
        + seed(15) + "best 0 1 0 => 0\nbest 0 1 1 => 50\nset 0 5 0\nbest 0 1 0 => 0\nbest 0 1 1 => 0\ntold 0 4 => 16\nbest 0 0 0 => BAD\nbest 0 61 0 => BAD\nbest 0 1 2 => BAD\nbest 0 1 -1 => BAD\nbest 1 1 0 => BAD\nbest -1 1 0 => BAD\n");
    holds("BEST: the others are as they are", "rubbing 0 0 1\nrubbing 5 0 1\nset 1 4 0\nset 1 5 20\n" + seed(0) + "best 0 1 1 => 53\nbest 1 1 0 => 1\nbest 1 1 1 => 20\ntold 1 4 => 0\n");
    holds("TAUGHT for n: the place whose MARK, if it were 1 more (3 becomes 0), leaves most TRUST of all behind n TIDES, together; of several the least", "taught 1 0 => 0\ntaught 1 1 => 0\n"
        + "rubbing 0 1 1\nset 0 4 15\n" + seed(15) + "taught 1 0 => 15\ntaught 1 1 => 53\ncarve 15 1\ntaught 1 0 => 0\ntaught 1 1 => 53\ncarve 15 3\nset 0 1 0\ntaught 1 0 => 15\ntaught 1 1 => 53\nset 0 1 3\ncarve 15 2\ntaught 1 0 => 15\ntaught 1 1 => 53\n"
        + "set 0 1 2\ntaught 1 0 => 0\nset 0 4 0\nset 0 1 1\ncarve 0 1\n" + seed(0) + "taught 1 0 => 1\ntaught 1 1 => 53\ncarve 0 3\nset 0 1 0\ntaught 1 0 => 0\ntaught 1 1 => 53\ncarved 0 => 3\n"
        + "rubbing 0 0 1\nset 1 4 16\ntaught 1 1 => 103\ntaught 0 0 => BAD\ntaught 61 0 => BAD\ntaught 1 2 => BAD\ntaught 1 -1 => BAD\n");
    holds("WHOSE by a SHEET: ... differ least (signs left out; beyond SIZE: 0), together; of several the least", """
        whose 0 0 => NOTHING
        sheet 0 1 24
        whose 0 0 => NONE
        whose 0 1 => NONE
        rubbing 0 3 1
        rubbing 0 3 8
        whose 0 0 => 0
        whose 0 1 => 3
        mark 0 0 -99999
        whose 0 1 => 100002
        mark 0 0 99999
        whose 0 1 => 99996
        mark 0 0 3
        mark 0 23 -7
        whose 0 0 => 0
        whose 0 1 => 7
        mark 0 23 NONE
        mark 0 8 3
        whose 0 1 => 3
        mark 0 8 0
        mark 0 1 2
        rubbing 5 0 2
        whose 0 0 => 2
        whose 0 1 => 1
        mark 0 1 0
        whose 0 0 => 0
        whose 0 1 => 0
        sheet 1 0 1
        mark 1 0 -32768
        whose 1 0 => 2
        whose 1 1 => 32770
        mark 1 0 32767
        whose 1 0 => 0
        whose 1 1 => 32764
        sheet 2 1 0
        whose 2 0 => 0
        whose 2 1 => 0
        sheet 2 1 2
        mark 2 0 NONE
        mark 2 1 NONE
        whose 2 0 => 0
        whose 2 1 => 0
        whose 3 0 => NOTHING
        whose 4 0 => BAD
        whose -1 0 => BAD
        whose 0 2 => BAD
        whose 0 -1 => BAD
        """);
  }

  public static void main(String[] args) {
    terms();
    wall();
    says();
    gainsAndWorth();
    covers();
    tide();
    lies();
    thought();
    d.end();
  }
}
