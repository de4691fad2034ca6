/** Sections 4 and 5 of the document and promises 28 to 46, a sentence that names a bound after the other. */
public final class MoreSentencesTest {
  private static final Due d = new Due("MoreSentencesTest");

  private static void holds(String sentence, String rows) {
    d.sentence(sentence);
    Script.of(d, rows);
  }

  private static String seed(int... places) { return "seed " + Due.seedFor(places) + "\n"; }

  /** Each row is a TEXT with the place of its FAULT, on a new object; THE TAPE is used up, and there is no TEXT. */
  private static void faults(String sentence, String rows) {
    d.sentence(sentence);
    for (String row : rows.split("\n")) {
      int at = row.lastIndexOf(" => ");
      String text = row.substring(0, at);
      Caller c = new Caller(new StoneSheets());
      Script.tape(c, text);
      d.due("text <" + text + ">", c.call("text"), -100 - Integer.parseInt(row.substring(at + 4)));
      d.due("THE TAPE behind <" + text + ">", c.call("count", 5), 0);
      d.due("TEXTS behind <" + text + ">", c.call("count", 3), 0);
    }
  }

  /** Each row is what fee is to give, and what it gives, with THE TIDE 12 and FOUND 1. */
  private static void gives(String sentence, String rows) {
    d.sentence(sentence);
    Script s = Script.of(d, "rubbing 5 0 8\nset 0 4 0\nset 0 5 20\n" + seed(0) + "tides 12 => 1\nkeep\n");
    int many = 0;
    for (String row : rows.split("\n")) {
      if (many++ % 20 == 0) s = Script.of(d, "rubbing 5 0 8\nset 0 4 0\nset 0 5 20\n" + seed(0) + "tides 12 => 1\nkeep\n");
      int at = row.lastIndexOf(" => ");
      s.run("text fee " + row.substring(0, at) + " => 0\nfee" + row.substring(at) + "\nback => 1\n");
    }
  }

  /** A text of so many bytes that ends so, with a sum that is as long as need be. */
  private static String ofLength(int bytes, String end) {
    StringBuilder s = new StringBuilder("fee 1");
    while (s.length() + end.length() < bytes - 1) s.append("+1");
    if (s.length() + end.length() < bytes) s.insert(3, ' ');
    return s + end;
  }

  private static void tape() {
    holds("TEXTS, 14 at most, numbered from 0", """
        count 3 => 0
        textTold 0 0 => BAD
        text fee 0 => 0
        text fee 1 => 1
        text fee 2 => 2
        text gain 3 => 3
        text gain 4 => 4
        text gain 5 => 5
        text fine 6 => 6
        text fine 7 => 7
        text fine 8 => 8
        text fine 9 => 9
        text fine 10 => 10
        text fine 11 => 11
        text fine 12 => 12
        textTold 13 0 => BAD
        text fine 13 + 0 => 13
        count 3 => 14
        textTold 13 0 => 2
        textTold 13 1 => 2
        textTold 14 0 => BAD
        tape fee 14 => 6
        text => FULL
        count 5 => 0
        count 3 => 14
        text => -100
        text gain 14 => FULL
        text gain 14 ) => -108
        why 0 => 5
        why 1 => 2
        why 2 => 13
        fee => 2
        back => NO
        """);
    holds("THE TAPE (96 bytes at most); feed: FULL: it would have more than 96", """
        count 5 => 0
        feed 0 0 0 x7 => 84
        feed 0 0 0 => 96
        feed 0 0 0 => FULL
        count 5 => 96
        trim 97 => BAD
        trim 96 => 96
        trim 85 => 85
        feed 0 0 0 => FULL
        count 5 => 85
        trim 84 => 84
        feed 0 0 0 => 96
        trim 0 => 0
        trim 1 => BAD
        trim -1 => BAD
        count 5 => 0
        """);
    holds("the highest of each number first", """
        feed 1734437230 540024875 544481312 => 12
        trim 6 => 6
        text => 0
        textTold 0 0 => 0
        why 0 => 0
        rubbing 0 0 1
        told 0 7 => 0
        feed 1734437230 540024875 544481312 => 12
        text => 1
        told 0 7 => 50
        feed -1 MIN MAX => 12
        text => -100
        """);
    holds("an act that reads it uses it up, whatever it answers", """
        tape fee 7 => 5
        text => 0
        count 5 => 0
        text => -100
        tape fee 7 7 => 7
        text => -106
        count 5 => 0
        text => -100
        fee => 7
        tape fee 8 => 5
        fee => 7
        count 5 => 5
        """);
  }

  private static void grammar() {
    gives("E, the loosest first: OR, AND, TEST, SUM, TERM, PIECE; each from the left", """
        1|0&0 => 1
        (1|0)&0 => 0
        0&0|1 => 1
        1&2=2 => 1
        2=2&1 => 1
        0=1|1 => 1
        1+1=2 => 1
        2=1+1 => 1
        1<1+1 => 1
        3-1>1 => 1
        2+3*4 => 14
        2*3+4 => 10
        10-2-3 => 5
        10-(2-3) => 11
        100/7/2 => 7
        100/(7/2) => 33
        100/7*7 => 98
        100*7/9 => 77
        !0+1 => 2
        !(0+1) => 0
        !0*5 => 5
        !!5 => 1
        !!0 => 0
        !n => 0
        1&1&0 => 0
        0|0|3 => 1
        1=1&2=2|0 => 1
        n => 12
        f => 1
        n*f-f => 11
        """);
    gives("NUMBER (1 to 4 digits)", """
        0 => 0
        9 => 9
        10 => 10
        999 => 999
        1000 => 1000
        9999 => 9999
        0000 => 0
        0009 => 9
        """);
    faults("NUMBER (1 to 4 digits)", """
        fee 10000 => 4
        fee 00000 => 4
        fee 1+00001 => 6
        fee 9999+99999 => 9
        fee 123456789 => 4
        fee (12345) => 5
        fee !12345 => 5""");
    faults("NAMES, each one letter: of gain t, s, l; of fee n, f; of fine t, s", """
        gain n => 5
        gain f => 5
        gain tt => 5
        gain ts => 5
        gain a => 5
        fee t => 4
        fee s => 4
        fee l => 4
        fee nf => 4
        fee z => 4
        fine l => 5
        fine n => 5
        fine f => 5
        fine st => 5
        fine t+u => 7""");
    faults("KEY: gain | fee | fine", """
        gai 1 => 0
        gains 1 => 0
        fe 1 => 0
        feee 1 => 0
        fin 1 => 0
        fined 1 => 0
        Fee 1 => 0
        1 => 0
        t => 0
        (fee 1) => 0
        !fee 1 => 0
        fee fee 1 => 4
        fee gain => 4
          fees 1 => 2
        + => 0""");
    faults("A word is a row of letters a .. z, or of digits, as long as it goes; any other byte is a sign by itself",
        "fee na => 4\nfee nz => 4\nfee an => 4\nfee zn => 4\nfee n` => 5\nfee n{ => 5\nfee `n => 4\nfee {n => 4\nfee n: => 5\nfee 1: => 5\nfee :1 => 4\nfee n. => 5\nfee nN => 5\n"
        + "fee n" + (char) 0 + " => 5\nfee n" + (char) 9 + " => 5\nfee n" + (char) 127 + " => 5\nfee n" + (char) 128 + " => 5\nfee n" + (char) 225 + " => 5\nfee n" + (char) 255 + " => 5\n"
        + "fee" + (char) 9 + "n => 3\nfee " + (char) 160 + "n => 4\nfee n" + (char) 31 + " => 5\nfee n! => 5\nfee n\" => 5\nfee n_ => 5\nfee n[ => 5\nfee n@ => 5");
    gives("words of the digits at the ends of their row, signs right beside them", """
        90 => 90
        9/0 => 0
        0/9 => 0
        9-0 => 9
        19*10 => 190
        (0|9)+9 => 10
        """);
    gives("Between words and signs, and at the ends, there may be blanks (byte 32)", """
        (n) => 12
           n    => 12
         (  n  )  +  (  f  )  => 13
        ! ! 7 => 1
        !   ( n ) => 0
        n  <   f  => 0
        """);
    holds("no blank is needed beside a sign", "text fee(n) => 0\ntext fee!n => 1\ntext fee(7) => 2\nfee => 7\ntext  gain 1 => 3\ntext gain!0 => 4\n");
    faults("a word right behind another one needs one", """
        fee7 => 3
        feen => 0
        fee 7n => 5
        fee n7 => 5
        fee 7 7 => 6
        fee n n => 6
        fee 7 n => 6
        fee n 7 => 6
        fee (7)7 => 7
        fee (7)n => 7
        fee (7) n => 8
        gain4 => 4
        gain4 4 => 4
        fine9999t => 4
        fine 1+2t => 8""");
  }

  private static void fault() {
    faults("FAULT: the first byte of the first word or sign with which no TEXT goes on", """
        fee ) => 4
        fee +1 => 4
        fee -1 => 4
        fee *n => 4
        fee =1 => 4
        fee &1 => 4
        fee |1 => 4
        fee 1+*2 => 6
        fee 1--2 => 6
        fee 1<=2 => 6
        fee 1<2<3 => 7
        fee 1=2=3 => 7
        fee 1>2<3 => 7
        fee 1<2+1<3 => 9
        fee 1<2*1=3 => 9
        fee 1<(2<3)<4 => 11
        fee 1 => 2 => 7
        fee (1<2<3) => 8
        fee 1<2&3<4<5 => 11
        fee ! ) => 6
        fee !+1 => 5
        fee n! => 5
        fee n(f) => 5
        fee (n)(f) => 7
        fee (n))  => 7
        fee ((n)))+ => 9
        fee n) => 5
        fee () => 5
        fee 1+() => 7
        fee n,f => 5
        fee n % f => 6""");
    gives("one test within a bracket, an AND and an OR, each", """
        (1<2)<3 => 1
        1<(2<3) => 0
        1<2&2<3&3<4 => 1
        1<2|2<1|3=4 => 1
        (1<2)+(2<3)=2 => 1
        !(1<2)=0 => 1
        """);
    faults("the end (the place behind the last byte), if it comes too soon",
        " => 0\n    => 3\nfee => 3\nfee   => 5\nfee ( => 5\nfee (n => 6\nfee (n   => 8\nfee ((n) => 8\nfee n+ => 6\nfee n+  => 7\nfee n< => 6\nfee n& => 6\nfee n| => 6\nfee n* => 6\nfee ! => 5\nfee !( => 6\nfee n<f< => 7\n"
        + ofLength(96, "+") + " => 96\n" + ofLength(95, "+") + " => 95\n" + ofLength(96, "+ ") + " => 96\n" + ofLength(96, "+(1") + " => 96\n" + ofLength(96, ")") + " => 95");
    holds("a TEXT of 96 bytes", "text " + ofLength(96, "+1") + " => 0\ntext " + ofLength(95, "+1") + " => 1\ntext " + ofLength(96, "+9999") + " => 2\n");
    faults("the ninth ( that would be open within others, the ninth ! likewise, each by itself", """
        fee (((((((((1))))))))) => 12
        fee ((((((((( => 12
        fee ((((((((( 1 => 12
        fee (((((((( => 12
        fee ((((((((1))))))) => 20
        fee !!!!!!!!!1 => 12
        fee !!!!!!!!! => 12
        fee !!!!!!!! => 12
        fee (!(!(!(!(!(!(!(!(1 => 20
        fee !(!(!(!(!(!(!(!(!1 => 20
        fee !!!!(!!!!(!1)) => 14
        fee ((((1+((((1*(1 => 16
        fee (1)+((((((((1+(2 => 18
        fee 1+!!!!!!!!!n => 14
        fee !!!!!!!!(((((((((1 => 20
        fee ((((((((!!!!!!!!!1 => 20
        fee n((((((((( => 5
        fee (((((((((((( => 12""");
    gives("the eighth of each is taken, and again once those before are done", """
        ((((((((1)))))))) => 1
        ((((((((1))))))))+((((((((2)))))))) => 3
        (((((((1+(1))))))))+(1) => 3
        (((((((1)+(2)+(3)))))))+(1) => 7
        !!!!!!!!5 => 1
        !!!!!!!!5+!!!!!!!!7 => 2
        !!!!!!!!((((((((0)))))))) => 0
        ((((((((!!!!!!!!3)))))))) => 1
        !(!(!(!(!(!(!(!(7)))))))) => 1
        !!!!(!!!!1+!!!!1)+!!!!0 => 1
        !1+!1+!1+!1+!1+!1+!1+!1+!1+!0 => 1
        (1)+(1)+(1)+(1)+(1)+(1)+(1)+(1)+(1)+(1) => 10
        """);
  }

  private static void worth() {
    gives("Ints wrap", """
        9999*9999*21 => 2099580021
        9999*9999*22 => -2095407274
        9999*9999*9999 => -1027349969
        9999*9999*43 => 4172747
        9999*9999*21+9999*9999 => -2095407274
        0-9999*9999*21-9999*9999 => 2095407274
        0-9999*9999*22 => 2095407274
        64*64*64*64*64*2 => -2147483648
        0-64*64*64*64*64*2 => -2147483648
        64*64*64*64*64*2-1 => 2147483647
        64*64*64*64*64*2/(0-1) => -2147483648
        64*64*64*64*64*4 => 0
        """);
    gives("/ is 0 by 0, and cuts towards 0", """
        7/0 => 0
        0/0 => 0
        (0-7)/0 => 0
        1+7/0+1 => 2
        7/(n-12) => 0
        (0-7)/2 => -3
        7/(0-2) => -3
        (0-7)/(0-2) => 3
        (0-1)/2 => 0
        1/2 => 0
        9999/5000 => 1
        """);
    gives("tests, & | ! give 1 or 0 (what is not 0 is true; both sides are worked out)", """
        1<2 => 1
        2<2 => 0
        3<2 => 0
        2=2 => 1
        2=3 => 0
        3>2 => 1
        2>2 => 0
        1>2 => 0
        5&7 => 1
        5&0 => 0
        0&5 => 0
        0&0 => 0
        5|7 => 1
        5|0 => 1
        0|7 => 1
        0|0 => 0
        !5 => 0
        !0 => 1
        !(0-1) => 0
        (0-1)&(0-2) => 1
        (0-1)|0 => 1
        0|(0-1) => 1
        2&4 => 1
        (1|0)+(0|1) => 2
        0&1/0 => 0
        1|1/0 => 1
        0-1<0 => 1
        0>0-1 => 1
        0-9999*9999*21<9999*9999*21 => 1
        9999*9999*21>0-9999*9999*21 => 1
        9999*9999*21<0-9999*9999*21 => 0
        0-9999*9999*21>9999*9999*21 => 0
        (0-1=0-1)*3 => 3
        64*64*16=0 => 0
        64*64*16=65 => 0
        64*64*64*64*64*4=0 => 1
        64*64*64*64*64*2=0-64*64*64*64*64*2 => 1
        """);
    holds("what fee gives is told by fee(); without a TEXT: FOUND", "fee => 0\nrubbing 5 0 1\nset 0 4 15\nset 0 5 20\n" + seed(15)
        + "tides 1\nfee => 1\ntext fine 7\nfee => 1\ntext fee n\nfee => 1\ntides 9\nfee => 10\ntext fee f\nfee => 1\n");
    holds("names of fine: t TRUST, s SIZE; without a TEXT: TRUST", """
        fine 0 => BAD
        rubbing 5 0 8
        rubbing 0 0 1
        fine 0 => 50
        set 0 5 0
        fine 0 => 0
        set 0 5 99
        fine 0 => 99
        text fee 7
        fine 0 => 99
        text fine s
        fine 0 => 8
        fine 1 => 1
        text fine t
        fine 0 => 99
        fine 1 => 50
        fine 2 => BAD
        fine -1 => BAD
        text fine 0 - t * 9999 * 9999
        fine 0 => -1308085507
        """);
    holds("Of a KEY that TEXT counts that was told last", """
        why 0 => NONE
        text gain 5 => 0
        text fee 6 => 1
        text gain 7 => 2
        why 0 => 2
        why 1 => 1
        why 2 => NONE
        rubbing 0 0 1
        told 0 7 => 7
        text gain 8 8 => -107
        why 0 => 2
        told 0 7 => 7
        text fine 9 => 3
        why 2 => 3
        why 3 => BAD
        why -1 => BAD
        """);
    holds("Of a TEXT: what 0 KEY (0 gain, 1 fee, 2 fine), 1 how many NUMBERS and NAMES it has", "text fee 1 => 0\ntext gain t+s*l-7 => 1\ntext fine ((!!t)) => 2\ntext " + ofLength(96, "+n") + " => 3\n"
        + "textTold 0 0 => 1\ntextTold 0 1 => 1\ntextTold 1 0 => 0\ntextTold 1 1 => 4\ntextTold 2 0 => 2\ntextTold 2 1 => 1\ntextTold 3 1 => 46\n"
        + "textTold 0 2 => BAD\ntextTold 0 -1 => BAD\ntextTold 4 0 => BAD\ntextTold -1 0 => BAD\n");
  }

  private static void sheets() {
    holds("SHEETS 0 .. 3 are rows of shorts (sort 0) or floats (1), with 0 to 24 places, or MISSING (at first)", """
        row* 0 => MISSING
        row* 3 => MISSING
        sheet 0 0 24 => 24
        sheet 3 1 24 => 24
        sheet 1 0 0 => 0
        sheet 2 1 0 => 0
        mark 0 23 9 => 1
        mark 0 24 9 => INDEX
        mark 3 23 9 => 1
        mark 3 24 9 => INDEX
        mark 1 0 9 => INDEX
        mark 2 0 9 => INDEX
        row* 0 => 0 0 0 0 0 0 0 0 0 0 0 0 0 0 0 0 0 0 0 0 0 0 0 9
        row* 3 => 0 0 0 0 0 0 0 0 0 0 0 0 0 0 0 0 0 0 0 0 0 0 0 9
        sheet 0 0 25 => BAD
        sheet 0 1 MAX => BAD
        sheet 0 0 -1 => SIZE
        sheet 0 1 MIN => SIZE
        sheet 4 0 1 => BAD
        sheet -1 0 1 => BAD
        sheet 0 2 1 => BAD
        sheet 0 -2 1 => BAD
        sheet 0 2 -1 => BAD
        sheet 0 2 25 => BAD
        row* 0 => 0 0 0 0 0 0 0 0 0 0 0 0 0 0 0 0 0 0 0 0 0 0 0 9
        sheet 0 0 24 => 24
        row* 0 => 0 0 0 0 0 0 0 0 0 0 0 0 0 0 0 0 0 0 0 0 0 0 0 0
        sheet 3 1 2 => 2
        sheet 3 1 24 => 24
        row* 3 => 0 0 0 0 0 0 0 0 0 0 0 0 0 0 0 0 0 0 0 0 0 0 0 0
        """);
    holds("sort -1: MISSING, n any: 0", """
        sheet 0 1 3
        sheet 0 -1 25 => 0
        row* 0 => MISSING
        sheet 0 1 3
        sheet 0 -1 -1 => 0
        row* 0 => MISSING
        sheet 0 -1 MIN => 0
        sheet 0 -1 MAX => 0
        sheet 4 -1 0 => BAD
        mark 0 0 0 => NOTHING
        sheet 0 0 2 => 2
        row* 0 => 0 0
        """);
    holds("of shorts its lowest 16 bits; NONE: KIND", """
        sheet 0 0 9
        mark 0 0 32767 => 1
        mark 0 1 32768 => 1
        mark 0 2 -32768 => 1
        mark 0 3 -32769 => 1
        mark 0 4 65535 => 1
        mark 0 5 65536 => 1
        mark 0 6 MIN => 1
        mark 0 7 MAX => 1
        mark 0 8 -1 => 1
        row* 0 => 32767 -32768 -32768 32767 -1 0 0 -1 -1
        mark 0 0 NONE => KIND
        mark 0 1 100000 => 1
        mark 0 2 -1000000004 => 1
        mark 0 3 -1000000006 => 1
        row* 0 => 32767 -31072 13820 13818 -1 0 0 -1 -1
        """);
    holds("of floats v, -99999 .. 99999; NONE: NO NUMBER", """
        sheet 0 1 5
        mark 0 0 99999 => 1
        mark 0 1 -99999 => 1
        mark 0 2 NONE => 1
        mark 0 3 32768 => 1
        mark 0 4 100000 => BAD
        mark 0 4 -100000 => BAD
        mark 0 4 MIN => BAD
        mark 0 4 MAX => BAD
        mark 0 4 BAD => BAD
        mark 0 4 -1000000004 => BAD
        row* 0 => 99999 -99999 - 32768 0
        mark 0 2 0 => 1
        mark 0 0 NONE => 1
        row* 0 => - -99999 0 32768 0
        mark 0 5 NONE => INDEX
        mark 0 -1 100000 => INDEX
        mark 1 9 100000 => NOTHING
        mark 4 9 100000 => BAD
        mark -1 0 0 => BAD
        """);
    holds("MARKS of THE WALL become the places of a SHEET (each held within 0 .. 3; NO NUMBER, and beyond the SHEET: they stay)", """
        pour 0 => NOTHING
        pour 4 => BAD
        pour -1 => BAD
        sheet 0 1 0
        pour 0 => 0
        carve 0 2
        carve 1 1
        carve 2 1
        carve 4 1
        carve 5 1
        carve 15 1
        sheet 0 1 5
        mark 0 0 NONE
        mark 0 1 -1
        mark 0 2 4
        mark 0 3 3
        mark 0 4 1
        pour 0 => 3
        carved* => 2033110000000001
        pour 0 => 0
        mark 0 1 -99999
        mark 0 2 99999
        pour 0 => 0
        sheet 1 0 24
        mark 1 15 32767
        mark 1 16 3
        mark 1 23 3
        pour 1 => 6
        carved* => 0000000000000003
        mark 1 15 32768
        pour 1 => 1
        carved* => 0000000000000000
        row* 1 => 0 0 0 0 0 0 0 0 0 0 0 0 0 0 0 -32768 3 0 0 0 0 0 0 3
        """);
    holds("The first place (of numbers alone) at which a SHEET is not TRUST of that RUBBING (of places that are no RUBBING all numbers are not)", """
        reads 0 => NOTHING
        reads 4 => BAD
        reads -1 => BAD
        sheet 0 1 0
        reads 0 => NONE
        sheet 0 1 24
        reads 0 => 0
        rubbing 0 0 1 x9
        set 0 5 0
        reads 0 => 1
        set 1 5 0
        set 2 5 0
        set 3 5 0
        set 4 5 0
        set 5 5 0
        set 6 5 0
        set 7 5 0
        reads 0 => 8
        set 8 5 0
        reads 0 => 9
        mark 0 9 NONE
        reads 0 => 10
        set 8 5 99
        reads 0 => 8
        mark 0 8 99
        reads 0 => 10
        mark 0 8 NONE
        mark 0 0 NONE
        reads 0 => 10
        mark 0 0 -1
        reads 0 => 0
        sheet 1 0 9
        mark 1 8 99
        reads 1 => NONE
        mark 1 8 98
        reads 1 => 8
        sheet 2 1 2
        mark 2 0 NONE
        mark 2 1 NONE
        reads 2 => NONE
        """);
    holds("NO NUMBER beyond the RUBBINGS, where TRUST could not be", "sheet 0 1 24\n" + nones(24) + "reads 0 => NONE\nrubbing 0 0 1\nreads 0 => NONE\nmark 0 23 0\nreads 0 => 23\n");
  }

  private static String nones(int many) {
    StringBuilder rows = new StringBuilder();
    for (int k = 0; k < many; k++) rows.append("mark 0 ").append(k).append(" NONE\n");
    return rows.toString();
  }

  private static void copies() {
    holds("So many places of a SHEET come to another one (or the same), as they were: many", """
        sheet 0 1 5
        mark 0 0 1
        mark 0 1 2
        mark 0 2 NONE
        mark 0 3 4
        mark 0 4 -99999
        sheet 1 1 3
        copy 0 0 1 0 0 => 0
        copy 0 5 1 3 0 => 0
        row* 1 => 0 0 0
        copy 0 2 1 0 3 => 3
        row* 1 => - 4 -99999
        copy 0 0 1 2 1 => 1
        row* 1 => - 4 1
        copy 0 0 0 0 5 => 5
        row* 0 => 1 2 - 4 -99999
        copy 0 0 0 1 4 => 4
        row* 0 => 1 1 2 - 4
        copy 0 1 0 0 4 => 4
        row* 0 => 1 2 - 4 4
        copy 0 0 0 2 2 => 2
        row* 0 => 1 2 1 2 4
        sheet 2 1 24
        sheet 3 1 24
        mark 2 0 7
        mark 2 23 9
        copy 2 0 3 0 24 => 24
        row* 3 => 7 0 0 0 0 0 0 0 0 0 0 0 0 0 0 0 0 0 0 0 0 0 0 9
        copy 3 23 3 0 1 => 1
        copy 2 0 3 23 1 => 1
        row* 3 => 9 0 0 0 0 0 0 0 0 0 0 0 0 0 0 0 0 0 0 0 0 0 0 7
        """);
    holds("copy: BAD; NOTHING; KIND: they are not of one sort; INDEX", """
        sheet 0 0 3
        mark 0 0 5
        mark 0 1 6
        sheet 1 0 2
        sheet 2 1 3
        copy 0 0 1 0 3 => INDEX
        copy 0 1 1 0 3 => INDEX
        copy 0 2 1 0 2 => INDEX
        copy 0 0 1 1 2 => INDEX
        copy 0 3 1 0 1 => INDEX
        copy 0 0 1 2 1 => INDEX
        copy 0 4 1 0 0 => INDEX
        copy 0 0 1 3 0 => INDEX
        copy 0 -1 1 0 1 => INDEX
        copy 0 0 1 -1 1 => INDEX
        copy 0 -1 1 0 0 => INDEX
        copy 0 0 1 -1 0 => INDEX
        copy 0 0 1 0 -1 => INDEX
        copy 0 2 1 2 -1 => INDEX
        copy 0 1 1 1 MAX => INDEX
        copy 0 MAX 1 1 1 => INDEX
        copy 0 1 1 MAX 1 => INDEX
        copy 0 MAX 1 MAX MAX => INDEX
        copy 0 MIN 1 MIN MIN => INDEX
        copy 0 0 2 0 1 => KIND
        copy 2 9 0 -9 -1 => KIND
        copy 0 0 3 0 1 => NOTHING
        copy 3 0 0 0 1 => NOTHING
        copy 2 9 3 9 9 => NOTHING
        copy 3 9 4 9 9 => BAD
        copy 4 0 3 0 1 => BAD
        copy -1 0 0 0 1 => BAD
        copy 0 0 -1 0 1 => BAD
        row* 0 => 5 6 0
        row* 1 => 0 0
        row* 2 => 0 0 0
        """);
  }

  private static void slots() {
    holds("SLOTS 0 .. 4 each hold nothing (at first), a RUBBING (as it is then, for good), a SHEET (a row of its own, as it was then), or a number", """
        lay 0 0 0 => 0
        lay 4 0 MIN => 0
        lay 5 0 0 => BAD
        lay -1 0 0 => BAD
        lay 0 4 0 => BAD
        lay 0 -1 0 => BAD
        rubbing 1 0 1
        sheet 0 1 2
        mark 0 1 NONE
        lay 0 1 0 => 0
        lay 1 2 0 => 0
        lay 2 3 MIN => 0
        lay 0 1 1 => BAD
        lay 0 1 -1 => BAD
        lay 0 2 1 => NOTHING
        lay 0 2 4 => BAD
        lay 0 2 -1 => BAD
        set 0 5 99
        turns 0 2
        mark 0 0 7
        mark 0 1 7
        ask 0 1 => 55
        ask 0 0 => 55
        ask 0 2 => KIND
        item 1 0 => 0
        item 1 1 => KIND
        item 1 2 => INDEX
        item 1 -1 => INDEX
        sheet 0 -1 0
        item 1 0 => 0
        keep
        rubbing 0 0 1
        lay 3 1 1 => 0
        back => 1
        ask 3 0 => 50
        lay 3 1 1 => BAD
        ask 3 0 => 50
        lay 0 3 5 => 1
        lay 1 3 6 => 2
        lay 2 3 7 => 3
        lay 3 0 9 => 1
        rest 0 9 => 5
        rest 1 9 => 6
        rest 2 9 => 7
        rest 3 9 => NOTHING
        rest 4 9 => NOTHING
        """);
    holds("WORTH, by its own KIND, of the RUBBING in a SLOT, taken for one of a KIND (0 .. 5)", """
        rubbing 3 0 1
        set 0 5 0
        lay 4 1 0
        ask 4 0 => 10
        ask 4 1 => 10
        ask 4 3 => 10
        ask 4 2 => KIND
        ask 4 4 => KIND
        ask 4 5 => KIND
        ask 4 6 => BAD
        ask 4 -1 => BAD
        ask 3 0 => NOTHING
        ask 3 6 => BAD
        ask 3 -1 => BAD
        ask 5 0 => BAD
        ask -1 0 => BAD
        turns 0 4
        set 0 5 99
        lay 0 1 0
        ask 0 0 => -6
        ask 0 2 => -6
        ask 0 4 => -6
        ask 0 1 => KIND
        turns 0 5
        lay 0 1 0
        ask 0 0 => 1
        ask 0 5 => 1
        ask 0 3 => KIND
        lay 0 3 0
        ask 0 0 => KIND
        ask 0 6 => BAD
        """);
    holds("A place of the SHEET in a SLOT; NOTHING; KIND: it is no SHEET; INDEX; KIND: NO NUMBER", """
        item 0 0 => NOTHING
        item 0 -1 => NOTHING
        item 5 0 => BAD
        item -1 0 => BAD
        sheet 0 1 24
        mark 0 23 -99999
        mark 0 22 NONE
        lay 0 2 0
        item 0 0 => 0
        item 0 23 => -99999
        item 0 22 => KIND
        item 0 24 => INDEX
        item 0 -1 => INDEX
        item 0 MAX => INDEX
        item 0 MIN => INDEX
        sheet 1 0 0
        lay 1 2 1
        item 1 0 => INDEX
        lay 1 3 0
        item 1 -1 => KIND
        rubbing 0 0 1
        lay 1 1 0
        item 1 -1 => KIND
        """);
    holds("The rest of the number in a SLOT by n; NO: n is 0", """
        rest 0 0 => NOTHING
        rest 5 0 => BAD
        rest -1 0 => BAD
        lay 0 3 MIN
        rest 0 -1 => 0
        rest 0 1 => 0
        rest 0 0 => NO
        rest 0 MIN => 0
        rest 0 MAX => -1
        rest 0 7 => -2
        rest 0 -7 => -2
        lay 0 3 MAX
        rest 0 -1 => 0
        rest 0 MIN => 2147483647
        rest 0 MAX => 0
        rest 0 -10 => 7
        lay 0 3 0
        rest 0 5 => 0
        rest 0 0 => NO
        rubbing 0 0 1
        lay 0 1 0
        rest 0 0 => KIND
        sheet 0 0 1
        lay 0 2 0
        rest 0 0 => KIND
        """);
  }

  private static void images() {
    holds("One more number waits: how many. FULL: 60 wait", """
        tell MIN => 1
        tell MAX => 2
        tell NONE x57 => 59
        tell 0 => 60
        tell 0 => FULL
        count 4 => 60
        check 0 => BAD
        count 4 => 0
        tell 7 => 1
        """);
    holds("THE TIDES TOLD of n (1 .. 30; fewer, if THE TIDE would be above 9999)", "tides 100 x99\ntides 97\nrubbing 5 0 1\nset 0 4 15\nset 0 5 41\n" + seed(0, 15) + "keep => 1\n"
        + "tell 41\ntell 1\ntell 21\ntell 1\ncheck 30 => 0\ntell 41\ntell 1\ntell 21\ntell 1\ncheck 2 => 0\ntell 41\ntell 1\ncheck 1 => 0\n"
        + "tell 41\ntell 1\ntell 21\ntell 1\ntell 21\ncheck 30 => 5\ntell 41\ntell 1\ncheck 30 => 3\ntides 2\ncount 1 => 9999\ntell 41\ntell 1\ntell 21\ntell 1\ncheck 3 => 0\n"
        + "keep => 1\ncheck 1 => 0\ncheck 30 => 0\ntell 21\ncheck 30 => 1\n");
    holds("0; else 1 and how many stand right ahead of the first that is not (or is missing, or one too many)", "rubbing 5 0 1\nset 0 4 15\nset 0 5 21\n" + seed(15, 0) + "keep => 1\n"
        + "check 1 => 1\ntell 1\ncheck 1 => 2\ntell 1\ntell 1\ncheck 1 => 0\ntell 1\ntell 1\ntell 1\ncheck 1 => 3\ntell 1\ntell 1\ntell 1\ntell 1\ncheck 1 => 3\ntell 2\ntell 1\ncheck 1 => 1\ntell 1\ntell 0\ncheck 1 => 2\n"
        + "tell 1\ntell 1\ntell 1\ntell 1\ncheck 2 => 0\ntell 1\ntell 1\ntell 1\ntell 0\ncheck 2 => 4\ntell 1\ntell 1\ntell 1\ncheck 2 => 4\ncheck 0 => BAD\ncheck 31 => BAD\ncheck -1 => BAD\ncount 1 => 0\nbook 0 => 0\n");
    holds("TRUST of all, together; how many are LAID on THE WALL, by THE IMAGE", "rubbing 0 0 1 x9\nset 8 4 15\nset 0 4 14\n" + seed(0) + "keep => 9\nset 0 4 16\nset 8 4 16\nseed 5\n"
        + "count 2 => 0\ntell 450\ntell 2\ncheck 1 => 0\ntell 450\ntell 0\ncheck 1 => 2\ntell 450\ntell 2\ntell 450\ncheck 1 => 3\n");
    holds("The numbers that wait (none do then, whatever is answered); NO: there is no IMAGE", """
        tell 1
        check 30 => NO
        count 4 => 0
        tell 1
        check 31 => BAD
        count 4 => 0
        keep => 0
        tell 0
        tell 0
        check 1 => 0
        count 4 => 0
        tell 0
        check 1 => 2
        count 4 => 0
        tell 0
        tell 0 x59
        check 30 => 0
        """);
    holds("AN IMAGE keeps all but SHEETS, SLOTS, numbers that wait, THE TAPE; all can become as it is (again and again)", """
        back => NO
        rubbing 3 5 2 => 0
        set 0 4 15
        text fee 5 => 0
        keep => 1
        rubbing 0 1 1 => 1
        set 0 1 9
        set 0 2 3
        set 0 3 1
        set 0 4 3
        set 0 5 9
        turns 0 4
        carve 15 3
        tides 9
        text fee 6 => 1
        text gain 6 => 2
        sheet 0 0 2
        mark 0 1 8
        lay 0 3 8
        tell 8
        tape fee 8
        back => 1
        told 0 0 => 3
        told 0 1 => 5
        told 0 2 => 2
        told 0 3 => 0
        told 0 4 => 15
        told 0 5 => 50
        told 1 0 => BAD
        carved 15 => 0
        count 1 => 0
        count 3 => 1
        count 4 => 1
        count 5 => 5
        count 6 => 1
        why 0 => NONE
        why 1 => 0
        fee => 5
        textTold 1 0 => BAD
        rest 0 9 => 8
        row* 0 => 0 8
        text => 1
        fee => 8
        carve 0 3
        back => 1
        carved 0 => 0
        fee => 5
        rubbing 0 0 1 x8 => 8
        rubbing 0 0 1 => FULL
        keep => 9
        back => 9
        told 8 2 => 1
        """);
    holds("an IMAGE of nothing, and of as much as there is room for", """
        keep => 0
        deal 9 => 9
        tides 100
        back => 0
        count 0 => 0
        count 1 => 0
        count 6 => 1
        deal 9 => 9
        keep => 9
        seed 0
        back => 9
        back => 9
        deal 1 => 0
        """);
    holds("0 how many RUBBINGS, ... 6 z. BAD", """
        count 0 => 0
        count 6 => 1
        count 7 => BAD
        count -1 => BAD
        count MIN => BAD
        count MAX => BAD
        seed BAD
        count 6 => BAD
        """);
  }

  public static void main(String[] args) {
    tape();
    grammar();
    fault();
    worth();
    sheets();
    copies();
    slots();
    images();
    d.end();
  }
}
