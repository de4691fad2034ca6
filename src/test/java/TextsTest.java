/** Promises 28 to 32: texts. */
public final class TextsTest {
  private static final Due d = new Due("TextsTest");

  private static void feed() {
    d.promise(28, "feed");
    StoneSheets s = new StoneSheets();
    int gain = 'g' << 24 | 'a' << 16 | 'i' << 8 | 'n';
    int blanks = 0x20202020;
    d.due("feed(gain, blanks, 7)", s.feed(gain, blanks, '7' << 24 | 0x202020), 12);
    d.due("the highest byte first", s.text(), 0);
    d.due("the TEXT counts", s.why(0), 0);
    s.rubbing(0, 0, 1);
    d.due("its number", s.told(0, 7), 7);
    for (int n = 12; n <= 96; n += 12) d.due("feed", s.feed(gain, n, -1), n);
    d.due("feed beyond 96", s.feed(1, 2, 3), Due.FULL);
    d.due("count(5)", s.count(5), 96);
    s.trim(85);
    d.due("feed at 85", s.feed(1, 2, 3), Due.FULL);
    s.trim(84);
    d.due("feed at 84", s.feed(1, 2, 3), 96);
  }

  private static void trim() {
    d.promise(29, "trim");
    StoneSheets s = new StoneSheets();
    d.due("trim(0) of none", s.trim(0), 0);
    d.due("trim(1) of none", s.trim(1), Due.BAD);
    s.feed(1, 2, 3);
    d.due("trim(13)", s.trim(13), Due.BAD);
    d.due("trim(-1)", s.trim(-1), Due.BAD);
    d.due("trim(12)", s.trim(12), 12);
    d.due("trim(5)", s.trim(5), 5);
    d.due("count(5)", s.count(5), 5);
    d.due("trim(6)", s.trim(6), Due.BAD);
    Due.feed(s, "fee 1 + 2");
    s.trim(5);
    d.due("the TEXT that is left", s.text(), 0);
    d.due("fee()", s.fee(), 1);
  }

  /** What a TEXT gives: of fee, with THE TIDE 3 and FOUND 1. */
  private static void gives(StoneSheets s, String sum, int due) {
    int at = Due.text(s, "fee " + sum);
    d.due("text fee " + sum + " is taken", at >= 0 ? 0 : at, 0);
    d.due("fee " + sum, s.fee(), due);
  }

  private static StoneSheets withTides() {
    StoneSheets s = new StoneSheets();
    Due.laid(s, 5, "0", 0);
    s.set(0, 5, 1);
    s.seed(Due.seedFor(0));
    s.tides(3);
    s.keep();
    return s;
  }

  private static void worth() {
    d.promise(30, "text");
    String[] sums = {
      "7", "0007", "n", "f", "2+3*4", "2*3+4", "9-3-2", "100/7", "100/7*7", "100*7/9", "7/0", "0-7/2", "(0-7)/2",
      "!0", "!5", "!!5", "!0+1", "!n*4", "! ( 0 ) + 1", "1<2", "2<2", "2=2", "2>1", "1>2", "1+1=2", "5&3", "5&0", "0&0", "0|0", "4|0", "0|6",
      "1|0&0", "(1|0)&0", "1<2&2<3", "1<2&3<2", "1=1=1", "n+f*10", "(((((((1)))))))", "((((((((1))))))))", "!!!!!!!!3", "n-f-1",
      "9999*9999*9999", "2*(3+4)*5", "1-(2-3)", "12/(2*3)", "12/2*3", "3 > 2 | 1", "3-1>1", "0&1/0", "1=2", "2>2", "(0|1)*5", "5*(1|0)+(0&1)", "1|0=2"};
    int[] due = {
      7, 7, 3, 1, 14, 10, 4, 14, 98, 77, 0, -3, -3,
      1, 0, 1, 2, 0, 2, 1, 0, 1, 1, 0, 1, 1, 0, 0, 0, 1, 1,
      1, 0, 1, 0, 0, 13, 1, 1, 1, 1,
      (int) (9999L * 9999L * 9999L), 70, 2, 2, 18, 1, 1, 0, 0, 0, 5, 5, 1};
    StoneSheets s = withTides();
    for (int i = 0; i < sums.length; i++) {
      s.back();
      if (sums[i].equals("1=1=1")) d.due("text fee 1=1=1", Due.text(s, "fee 1=1=1"), -107);
      else gives(s, sums[i], due[i]);
    }
    s.back();
    gives(s, "9999*9999*22*1 + 9500*9999", (int) (9999L * 9999 * 22 + 9500L * 9999));
    StoneSheets t = new StoneSheets();
    t.rubbing(0, 0, 3);
    t.set(0, 4, 9);
    Due.text(t, "fine t*100+s");
    d.due("names of fine", t.fine(0), 5003);
    Due.text(t, "gain l+s");
    d.due("names of gain", t.told(0, 7), 12);
    Due.text(t, "fine (0-9999)*9999*22 - 9999*9999/2*0 - 9999");
    d.due("fine may be below 0", t.fine(0), (int) (-9999L * 9999 * 22 - 9999));
    Due.text(t, "fine (64*64*64*64*64*2) / (0-1)");
    d.due("the least int by -1", t.fine(0), Integer.MIN_VALUE);
  }

  private static void fault(String text, int place) {
    StoneSheets s = new StoneSheets();
    d.due("text <" + text + ">", Due.text(s, text), -100 - place);
    d.due("THE TAPE is used up by <" + text + ">", s.count(5), 0);
    d.due("no TEXT by <" + text + ">", s.count(3), 0);
  }

  private static void faults() {
    fault("", 0);
    fault("   ", 3);
    fault("x", 0);
    fault("  gains 1", 2);
    fault("gai 1", 0);
    fault("Gain 1", 0);
    fault("pain 1", 0);
    fault("see 1", 0);
    fault("fee nz", 4);
    fault("fee na", 4);
    fault("fee z", 4);
    fault("7", 0);
    fault("(gain 1)", 0);
    fault("gain", 4);
    fault("gain  ", 6);
    fault("gain7", 4);
    fault("gain7 ", 4);
    fault("gaint", 0);
    fault("fee(", 4);
    fault("fee(n", 5);
    fault("fee(n  ", 7);
    fault("fee n)", 5);
    fault("fee (n))", 7);
    fault("fee ()", 5);
    fault("fee n f", 6);
    fault("fee nf", 4);
    fault("fee 1 2", 6);
    fault("fee 1n", 5);
    fault("fee n1", 5);
    fault("fee 12345", 4);
    fault("fee 1+00001", 6);
    fault("fee t", 4);
    fault("fee s", 4);
    fault("gain n", 5);
    fault("gain f", 5);
    fault("fine l", 5);
    fault("fine 1+", 7);
    fault("fine 1+ ", 8);
    fault("fine +1", 5);
    fault("fine -1", 5);
    fault("fine 1++1", 7);
    fault("fine 1 !", 7);
    fault("fine 1!0", 6);
    fault("fine !", 6);
    fault("fine 1(2)", 6);
    fault("fine (1)(2)", 8);
    fault("fine (1)2", 8);
    fault("fine 1<2<3", 8);
    fault("fine 1<2=3", 8);
    fault("fine (1<2)<3)", 12);
    fault("fine 1&&2", 7);
    fault("fine 1==2", 7);
    fault("fine 1%2", 6);
    fault("fine 1\t", 6);
    fault("fine 1" + (char) 0, 6);
    fault("fine 1" + (char) 255, 6);
    fault("fine " + (char) 160 + "1", 5);
    fault("fee (((((((((1", 12);
    fault("fee !!!!!!!!!1", 12);
    fault("fee !(!(!(!(!(!(!(!(!1", 20);
    fault("fee (!(!(!(!(!(!(!(!(1", 20);
    fault("fee (1)+((((((((1+(1", 18);
  }

  private static void noFaults() {
    StoneSheets s = new StoneSheets();
    String[] texts = {
      "gain(t)", "gain!t", " gain 1", "gain 1 ", "gain   1", "fee((((((((n))))))))", "fee !!!!!!!!n", "fee !(!(!(!(!(!(!(!(1))))))))",
      "fee !!!!!!!!1 + !!!!!!!!2", "fee (((((((1+(1))))))))+((((((((2))))))))", "fine 1<2&2=2|(1>2)<(3<4)", "fine 9999", "fee n+f", "fine ( t ) * ( s )"};
    for (int k = 0; k < texts.length; k++) d.due("text <" + texts[k] + ">", Due.text(s, texts[k]), k);
    d.due("the fifteenth", Due.text(s, "fee 1"), Due.FULL);
    d.due("THE TAPE behind FULL", s.count(5), 0);
    d.due("the fifteenth, with a FAULT", Due.text(s, "fee 1 1"), -106);
    d.due("count(3)", s.count(3), 14);
    d.due("the TEXT that counts still", s.why(1), 12);
    StoneSheets longest = new StoneSheets();
    StoneSheets behind = new StoneSheets();
    Due.text(behind, "fee ((((((((!!!!!!!!(");
    d.due("a TEXT behind one with a FAULT", Due.text(behind, "fee ((((((((!!!!!!!!1))))))))"), 0);
    Due.text(behind, "fee (2-");
    d.due("an end behind an open bracket of another TEXT", Due.text(behind, "fee 7"), 1);
    d.due("what it gives", behind.fee(), 7);
    StringBuilder all = new StringBuilder("fee 1");
    while (all.length() < 95) all.append("+1");
    d.due("a TEXT of 95 bytes", Due.text(longest, all.toString()), 0);
    d.due("what it gives", longest.fee(), 46);
    d.due("a TEXT of 96 bytes", Due.text(longest, all + " "), 1);
    d.due("an end too soon behind 96 bytes", Due.text(longest, all + "+"), -196);
  }

  private static void textTold() {
    d.promise(31, "textTold");
    StoneSheets s = new StoneSheets();
    Due.text(s, "fine 1 + t * (s - 3) & !4");
    Due.text(s, "gain 1");
    Due.text(s, "fee n+f+n");
    int[] keys = {2, 0, 1}, pieces = {5, 1, 3};
    for (int k = 0; k < 3; k++) {
      d.due("textTold(" + k + ", 0)", s.textTold(k, 0), keys[k]);
      d.due("textTold(" + k + ", 1)", s.textTold(k, 1), pieces[k]);
      d.due("textTold(" + k + ", 2)", s.textTold(k, 2), Due.BAD);
      d.due("textTold(" + k + ", -1)", s.textTold(k, -1), Due.BAD);
    }
    d.due("textTold(3, 0)", s.textTold(3, 0), Due.BAD);
    d.due("textTold(-1, 0)", s.textTold(-1, 0), Due.BAD);
    Due.text(s, "fine 1 + t * (s - 3) & !");
    d.due("a TEXT with a FAULT is none", s.textTold(3, 0), Due.BAD);
    d.due("and leaves the others", s.textTold(2, 1), 3);
  }

  private static void why() {
    d.promise(32, "why");
    StoneSheets s = new StoneSheets();
    d.due("why(0)", s.why(0), Due.NONE);
    Due.text(s, "fee 1");
    Due.text(s, "gain 1");
    Due.text(s, "fee 2");
    d.due("why(0)", s.why(0), 1);
    d.due("why(1)", s.why(1), 2);
    d.due("why(2)", s.why(2), Due.NONE);
    d.due("fee(): the one that was told last", s.fee(), 2);
    d.due("why(3)", s.why(3), Due.BAD);
    d.due("why(-1)", s.why(-1), Due.BAD);
  }

  public static void main(String[] args) {
    feed();
    trim();
    worth();
    faults();
    noFaults();
    textTold();
    why();
    d.end();
  }
}
