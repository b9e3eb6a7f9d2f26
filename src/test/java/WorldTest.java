/** Promises 7 and 8: the tape, and a world as a text. */
public final class WorldTest {
  private static final Due due = new Due();

  public static void main(String[] args) {
    type();
    worlds();
    crimeFaults();
    paperFaults();
    blanks();
    clauses();
    room();
    due.end();
  }

  private static void type() {
    SentRoads x = new SentRoads();
    due.is("P7 n 0", x.type(65, 0), SentRoads.BAD);
    due.is("P7 n 9", x.type(65, 9), SentRoads.BAD);
    due.is("P7 n least", x.type(65, Integer.MIN_VALUE), SentRoads.BAD);
    due.is("P7 n greatest", x.type(65, Integer.MAX_VALUE), SentRoads.BAD);
    due.is("P7 byte 31", x.type(31, 1), SentRoads.BAD);
    due.is("P7 byte 127", x.type(127, 1), SentRoads.BAD);
    due.is("P7 byte 255", x.type(-1, 8), SentRoads.BAD);
    due.is("P7 one of two", x.type(0x4100, 2), SentRoads.BAD);
    due.is("P7 the highest of 8", x.type(0x0141414141414141L, 8), SentRoads.BAD);
    due.is("P7 byte 32", x.type(32, 1), 1);
    due.is("P7 byte 126", x.type(126, 1), 2);
    due.is("P7 the tape so far", x.world(), -21);
    due.is("P7 the bytes above do not count", x.type(0xFFFFFFFFFFFFFF41L, 1), 1);
    due.is("P7 more", x.type(0x3E422AL, 3), 4);
    due.is("P7 the highest first", x.world(), 1);
    due.is("P7 as A>B*", x.paper(0, 1) * 10 + x.paper(0, 2), 1);
    for (int i = 1; i <= 14; i++) {
      due.is("P7 piece " + i, x.type(0x2020202020202020L, 8), 8 * i);
    }
    due.is("P7 119", x.type(0x20202020202020L, 7), 119);
    due.is("P7 FULL", x.type(0x2020, 2), SentRoads.FULL);
    due.is("P7 BAD ahead of FULL", x.type(0x201F, 2), SentRoads.BAD);
    due.is("P7 the 120th", x.type(0x20, 1), 120);
    due.is("P7 FULL at 120", x.type(0x20, 1), SentRoads.FULL);
    due.is("P8 the end of 120", x.world(), -140);
    due.is("P7 empty then", x.type(0x20, 1), 1);
  }

  private static void tellsCrime(SentRoads x, int crime, int... want) {
    for (int what = 0; what < 6; what++) {
      due.is("P8 crimeOf(" + crime + ", " + what + ")", x.crimeOf(crime, what), want[what]);
    }
  }

  private static void tellsPaper(SentRoads x, int paper, int... want) {
    for (int what = 0; what < 8; what++) {
      due.is("P8 paper(" + paper + ", " + what + ")", x.paper(paper, what), want[what]);
    }
  }

  private static void worlds() {
    SentRoads x = new SentRoads();
    x.crime(3, 1, 0, 0, 1, false);
    due.is("P8 seven", Due.world(x, "A:a0..1;F:abcdef40..40!;F>A y40 ojpkh t99 +DSO;B:c-abdef0..40;A>B*;C>D*khojp+O;E>F y1 t1 +S"), 7);
    tellsCrime(x, 1, 0, 1, 0, 0, 1, 0);
    tellsCrime(x, 2, 5, 63, 0, 40, 40, 1);
    tellsCrime(x, 3, 1, 4, 59, 0, 40, 0);
    tellsPaper(x, 0, 0, 5, 0, 40, SentRoads.CAST, 31, 99, 7);
    tellsPaper(x, 1, 2, 0, 1, SentRoads.CAST, SentRoads.CAST, 0, 0, 0);
    tellsPaper(x, 2, 2, 2, 3, SentRoads.CAST, SentRoads.CAST, 31, 0, 4);
    tellsPaper(x, 3, 0, 4, 5, 1, SentRoads.CAST, 0, 1, 2);
    due.is("P8 bars one by one", Due.world(x, "A>B*o;A>B*j;A>B*p;A>B*k;A>B*h;A>B*+D;A>B*+DO"), 7);
    for (int i = 0; i < 5; i++) {
      due.is("P8 bar " + i, x.paper(4 + i, 5), 1 << i);
    }
    due.is("P8 +D", x.paper(9, 7), 1);
    due.is("P8 +DO", x.paper(10, 7), 5);
    due.is("P8 a DEED learns of the CRIMES", x.deed(4, 1, 0, 0), 0);
    due.is("P8 numbers with 0 ahead", Due.world(x, "C:c00..007"), 1);
    due.is("P8 YEARS then", x.yearsOf(0, 2, 0), 7);
  }

  private static void fault(String text, int place) {
    SentRoads x = new SentRoads();
    due.is("P8 '" + text + "'", Due.world(x, text), -20 - place);
    due.is("P8 nothing came of '" + text + "'", x.count(0) + x.count(2), 0);
    due.is("P8 THE TAPE is empty behind '" + text + "'", x.type(65, 1), 1);
  }

  private static void crimeFaults() {
    fault("", 0);
    fault("a", 0);
    fault("G:a1..2", 0);
    fault("@:a1..2", 0);
    fault(";", 0);
    fault("A", 1);
    fault("A;", 1);
    fault("A:", 2);
    fault("A:1..2", 2);
    fault("A:g1..2", 2);
    fault("A:a", 3);
    fault("A:aa1..2", 3);
    fault("A:ba1..2", 3);
    fault("A:ace d1..2", 6);
    fault("A:abcdefa1..2", 8);
    fault("A:a-1..2", 4);
    fault("A:a--b1..2", 4);
    fault("A:a-a1..2", 4);
    fault("A:ac-bc1..2", 6);
    fault("A:ac-db1..2", 6);
    fault("A:a-b-c1..2", 5);
    fault("A:a41..42", 3);
    fault("A:a41", 3);
    fault("A:a41x", 3);
    fault("A:a4294967297..2", 3);
    fault("A:a1", 4);
    fault("A:a1.", 5);
    fault("A:a1.2", 5);
    fault("A:a1..", 6);
    fault("A:a1..!", 6);
    fault("A:a0..0", 6);
    fault("A:a5..4", 6);
    fault("A:a1..41", 6);
    fault("A:a1..41;x", 6);
    fault("A:a1..4294967298", 6);
    fault("A:a1...4", 6);
    fault("A:a1..2!!", 8);
    fault("A:a1..2;", 8);
    fault("A:a1..2;;", 8);
    fault("A:a1..2 3", 8);
    fault("A:a1..2!;A:a1..2!;A:a1..0", 24);
  }

  private static void paperFaults() {
    fault("A>", 2);
    fault("A>A*", 2);
    fault("A>G*", 2);
    fault("A>B", 3);
    fault("A>B;", 3);
    fault("A>Bo", 3);
    fault("A>By", 4);
    fault("A>By0", 4);
    fault("A>By41", 4);
    fault("A>By*", 4);
    fault("A>B*y4", 4);
    fault("A>B**", 4);
    fault("A>B*oo", 5);
    fault("A>B*ojpkhk", 9);
    fault("A>B*ox", 5);
    fault("A>B*t", 5);
    fault("A>B*t0", 5);
    fault("A>B*t100", 5);
    fault("A>B*t9o", 6);
    fault("A>B*t9t9", 6);
    fault("A>B*+", 5);
    fault("A>B*+;", 5);
    fault("A>B*+SD", 6);
    fault("A>B*+OS", 6);
    fault("A>B*+DD", 6);
    fault("A>B*+DSOO", 8);
    fault("A>B*+Dt9", 6);
    fault("A>B*+d", 5);
    fault("A>B*!", 4);
    fault("A>B:a1..2", 3);
  }

  private static void blanks() {
    fault("   ", 3);
    fault(" G", 1);
    fault("A:a 4 1..42", 6);
    fault("A:a1..  0", 8);
    fault("A:a1. ", 6);
    SentRoads x = new SentRoads();
    due.is("P8 blanks all over", Due.world(x, " A : a b - c 1 . . 12 ! ; A > B y 12 o h t 9 + D O "), 2);
    tellsCrime(x, 0, 0, 3, 4, 1, 12, 1);
    tellsPaper(x, 0, 0, 0, 1, 12, SentRoads.CAST, 17, 9, 5);
  }

  private static void clauses() {
    StringBuilder twelve = new StringBuilder("A>B*");
    for (int i = 1; i < 12; i++) {
      twelve.append(";A>B*");
    }
    SentRoads x = new SentRoads();
    due.is("P8 12 CLAUSES", Due.world(x, twelve.toString()), 12);
    due.is("P8 12 papers", x.count(2), 12);
    fault(twelve + ";", 59);
    fault(twelve + " ;A>B*", 60);
    fault(twelve + ";A>B*", 59);
    fault(twelve + "x", 59);
  }

  private static void room() {
    SentRoads x = new SentRoads();
    for (int i = 0; i < 11; i++) {
      x.custom(0, 1, 0, 0, 0);
    }
    for (int i = 0; i < 22; i++) {
      x.crime(0, 1, 0, 0, 1, false);
    }
    due.is("P8 no room for papers", Due.world(x, "A:a1..2;A>B*;A>B*"), SentRoads.FULL);
    due.is("P8 no CRIME came", x.count(0), 22);
    due.is("P8 no paper came", x.count(2), 11);
    due.is("P8 no room for CRIMES", Due.world(x, "A:a1..2;A>B*;A:a1..2;A:a1..2"), SentRoads.FULL);
    due.is("P8 no CRIME came", x.count(0), 22);
    due.is("P8 no paper came", x.count(2), 11);
    due.is("P8 a FAULT ahead of FULL", Due.world(x, "A>B*;A>B*;A>A*"), -32);
    due.is("P8 just room", Due.world(x, "A:a1..2;A>B*;A:a1..2"), 3);
    due.is("P8 24", x.count(0), 24);
    due.is("P8 12", x.count(2), 12);
    due.is("P8 FULL", Due.world(x, "A>B*"), SentRoads.FULL);
    due.is("P8 THE TAPE is empty behind FULL", x.world(), -20);
  }
}
