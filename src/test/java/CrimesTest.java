/** Promises 1 to 6 and 9 to 15: a new object, crimes, deeds, papers and what is told of them. */
public final class CrimesTest {
  private static final int LEAST = Integer.MIN_VALUE, GREATEST = Integer.MAX_VALUE;
  private static final Due due = new Due();

  public static void main(String[] args) {
    newObject();
    crime();
    crimeFull();
    deed();
    years();
    named();
    custom();
    papersFull();
    crimeOf();
    paper();
    bars();
    matchesAndYearsOf();
    shows();
    count();
    due.end();
  }

  private static void newObject() {
    SentRoads x = new SentRoads();
    for (int what = 0; what <= 4; what++) {
      due.is("P1 count(" + what + ")", x.count(what), 0);
    }
    due.is("P1 crimeOf(0, 0)", x.crimeOf(0, 0), SentRoads.BAD);
    due.is("P1 paper(0, 0)", x.paper(0, 0), SentRoads.BAD);
    due.is("P1 matches(0, 0, 0)", x.matches(0, 0, 0), SentRoads.BAD);
    due.is("P1 lands()", x.lands(), 1);
    due.is("P1 restore()", x.restore(), SentRoads.NONE);
    for (int s = 0; s < 4; s++) {
      due.is("P1 drop(" + s + ")", x.drop(s), SentRoads.NULL);
    }
    due.is("P1 another object is its own", new SentRoads().crime(0, 1, 0, 0, 1, false), 0);
    due.is("P1 count(0)", x.count(0), 0);
  }

  private static void crime() {
    SentRoads x = new SentRoads();
    due.is("P2 the least", x.crime(0, 1, 0, 0, 1, false), 0);
    due.is("P2 the greatest", x.crime(5, 32, 31, 40, 40, true), 1);
    due.is("P2 all marks", x.crime(5, 63, 0, 0, 40, true), 2);
    due.is("P2 but alone full", x.crime(5, 1, 62, 1, 1, true), 3);
    due.is("P2 two alike", x.crime(5, 1, 62, 1, 1, true), 4);
    int[][] wrong = {
      {-1, 1, 0, 0, 1}, {6, 1, 0, 0, 1}, {LEAST, 1, 0, 0, 1}, {GREATEST, 1, 0, 0, 1},
      {0, 0, 0, 0, 1}, {0, -1, 0, 0, 1}, {0, 64, 0, 0, 1}, {0, LEAST, 0, 0, 1},
      {0, 1, 64, 0, 1}, {0, 1, -2, 0, 1}, {0, 1, 1, 0, 1}, {0, 3, 2, 0, 1}, {0, 63, 32, 0, 1},
      {0, 1, 0, -1, 1}, {0, 1, 0, 2, 1}, {0, 1, 0, 0, 0}, {0, 1, 0, 0, 41}, {0, 1, 0, 41, 41},
      {0, 1, 0, 0, -1}, {0, 1, 0, -2, -1}, {0, 1, 0, 0, GREATEST}, {0, 1, 0, LEAST, 40},
    };
    for (int[] w : wrong) {
      due.is("P2 crime(" + java.util.Arrays.toString(w) + ")", x.crime(w[0], w[1], w[2], w[3], w[4], true), SentRoads.BAD);
    }
    due.is("P2 what is refused changes nothing", x.count(0), 5);
  }

  private static void crimeFull() {
    SentRoads x = new SentRoads();
    for (int i = 0; i < 24; i++) {
      due.is("P2 crime " + i, x.crime(i % 6, 1 + i, 0, 0, 1 + i, false), i);
    }
    due.is("P2 FULL", x.crime(0, 1, 0, 0, 1, false), SentRoads.FULL);
    due.is("P2 BAD ahead of FULL", x.crime(0, 0, 0, 0, 1, false), SentRoads.BAD);
    due.is("P2 count", x.count(0), 24);
    due.is("P2 crimeOf(23, 4)", x.crimeOf(23, 4), 24);
    due.is("P2 no 25th", x.crimeOf(24, 4), SentRoads.BAD);
    x.deed(1, 24, 0, 0);
    due.is("P12 the last bit", x.matches(0, 5, 1), 1 << 23);
  }

  private static void deed() {
    SentRoads x = new SentRoads();
    int[][] wrong = {
      {0, 0, 0, 0}, {-1, 0, 0, 0}, {64, 0, 0, 0}, {1, -1, 0, 0}, {1, 64, 0, 0}, {1, 0, -1, 0}, {1, 0, 6, 0},
      {1, 0, 0, -1}, {1, 0, 0, 100}, {LEAST, 0, 0, 0}, {GREATEST, 0, 0, 0}, {1, 0, 0, GREATEST},
    };
    for (int[] w : wrong) {
      due.is("P3 deed(" + java.util.Arrays.toString(w) + ")", x.deed(w[0], w[1], w[2], w[3]), SentRoads.BAD);
    }
    due.is("P3 count", x.count(1), 0);
    due.is("P3 the least", x.deed(1, 0, 0, 0), 0);
    due.is("P3 the greatest", x.deed(63, 63, 5, 99), 1);
    for (int i = 2; i < 8; i++) {
      due.is("P3 deed " + i, x.deed(1, 0, 0, 0), i);
    }
    due.is("P3 FULL", x.deed(1, 0, 0, 0), SentRoads.FULL);
    due.is("P3 BAD ahead of FULL", x.deed(0, 0, 0, 0), SentRoads.BAD);
    due.is("P3 count", x.count(1), 8);
  }

  /** What all three KINDS refuse: from, to, bars, age, promised. */
  private static final int[][] WRONG_PAPERS = {
    {-1, 1, 0, 0, 0}, {6, 1, 0, 0, 0}, {0, -1, 0, 0, 0}, {0, 6, 0, 0, 0}, {1, 1, 0, 0, 0},
    {0, 1, -1, 0, 0}, {0, 1, 32, 0, 0}, {0, 1, 0, -1, 0}, {0, 1, 0, 100, 0}, {0, 1, 0, 0, -1}, {0, 1, 0, 0, 8},
    {LEAST, 1, 0, 0, 0}, {0, GREATEST, 0, 0, 0}, {0, 1, LEAST, 0, 0}, {0, 1, 0, LEAST, 0}, {0, 1, 0, 0, LEAST},
  };

  private static void years() {
    SentRoads x = new SentRoads();
    due.is("P4 the least", x.years(0, 1, 1, 0, 0, 0), 0);
    due.is("P4 the greatest", x.years(5, 4, 40, 31, 99, 7), 1);
    for (int n : new int[] {0, -1, 41, LEAST, GREATEST}) {
      due.is("P4 n " + n, x.years(0, 1, n, 0, 0, 0), SentRoads.BAD);
    }
    for (int[] w : WRONG_PAPERS) {
      due.is("P4 years(" + java.util.Arrays.toString(w) + ")", x.years(w[0], w[1], 1, w[2], w[3], w[4]), SentRoads.BAD);
    }
    due.is("P4 count", x.count(2), 2);
    due.is("P4 KIND", x.paper(1, 0), 0);
  }

  private static void named() {
    SentRoads x = new SentRoads();
    due.is("P5 no CRIME there", x.named(0, 1, 1, 0, 0, 0), SentRoads.BAD);
    x.crime(1, 1, 0, 0, 9, false);
    x.crime(0, 1, 0, 0, 9, false);
    x.crime(1, 2, 0, 0, 9, false);
    due.is("P5 one CRIME", x.named(0, 1, 1, 0, 0, 0), 0);
    due.is("P5 two", x.named(5, 1, 5, 31, 99, 7), 1);
    for (int crimes : new int[] {0, 2, 3, 7, 8, 13, -1, LEAST, GREATEST, 1 << 24}) {
      due.is("P5 crimes " + crimes, x.named(2, 1, crimes, 0, 0, 0), SentRoads.BAD);
    }
    for (int[] w : WRONG_PAPERS) {
      due.is("P5 named(" + java.util.Arrays.toString(w) + ")", x.named(w[0], w[1], 1, w[2], w[3], w[4]), SentRoads.BAD);
    }
    due.is("P5 count", x.count(2), 2);
    due.is("P5 KIND", x.paper(1, 0), 1);
  }

  private static void custom() {
    SentRoads x = new SentRoads();
    due.is("P6 the least", x.custom(0, 1, 0, 0, 0), 0);
    due.is("P6 the greatest", x.custom(5, 4, 31, 99, 7), 1);
    for (int[] w : WRONG_PAPERS) {
      due.is("P6 custom(" + java.util.Arrays.toString(w) + ")", x.custom(w[0], w[1], w[2], w[3], w[4]), SentRoads.BAD);
    }
    due.is("P6 count", x.count(2), 2);
    due.is("P6 KIND", x.paper(1, 0), 2);
  }

  private static void papersFull() {
    SentRoads x = new SentRoads();
    x.crime(1, 1, 0, 0, 9, false);
    for (int i = 0; i < 12; i++) {
      int got = i % 3 == 0 ? x.years(0, 1, 1 + i, 0, 0, 0) : i % 3 == 1 ? x.named(0, 1, 1, 0, 0, 0) : x.custom(0, 1, 0, 0, 0);
      due.is("P4 to P6 paper " + i, got, i);
    }
    due.is("P4 FULL", x.years(0, 1, 1, 0, 0, 0), SentRoads.FULL);
    due.is("P5 FULL", x.named(0, 1, 1, 0, 0, 0), SentRoads.FULL);
    due.is("P6 FULL", x.custom(0, 1, 0, 0, 0), SentRoads.FULL);
    due.is("P4 BAD ahead of FULL", x.years(0, 1, 0, 0, 0, 0), SentRoads.BAD);
    due.is("P4 BAD ahead of FULL", x.years(0, 0, 1, 0, 0, 0), SentRoads.BAD);
    due.is("P5 BAD ahead of FULL", x.named(0, 1, 2, 0, 0, 0), SentRoads.BAD);
    due.is("P6 BAD ahead of FULL", x.custom(0, 1, 0, 0, 8), SentRoads.BAD);
    due.is("P6 count", x.count(2), 12);
  }

  private static void crimeOf() {
    SentRoads x = new SentRoads();
    x.crime(5, 33, 2, 3, 7, true);
    x.crime(4, 8, 0, 0, 1, false);
    int[] first = {5, 33, 2, 3, 7, 1}, second = {4, 8, 0, 0, 1, 0};
    for (int what = 0; what < 6; what++) {
      due.is("P9 crimeOf(0, " + what + ")", x.crimeOf(0, what), first[what]);
      due.is("P9 crimeOf(1, " + what + ")", x.crimeOf(1, what), second[what]);
    }
    for (int wrong : new int[] {-1, 6, LEAST, GREATEST}) {
      due.is("P9 crimeOf(0, " + wrong + ")", x.crimeOf(0, wrong), SentRoads.BAD);
      due.is("P9 crimeOf(" + wrong + ", 0)", x.crimeOf(wrong, 0), SentRoads.BAD);
    }
    due.is("P9 crimeOf(2, 0)", x.crimeOf(2, 0), SentRoads.BAD);
  }

  private static void paper() {
    SentRoads x = new SentRoads();
    x.crime(3, 1, 0, 0, 9, false);
    x.years(1, 2, 17, 19, 23, 5);
    x.named(2, 3, 1, 4, 99, 6);
    x.custom(4, 5, 31, 0, 7);
    int cast = SentRoads.CAST;
    int[][] want = {{0, 1, 2, 17, cast, 19, 23, 5}, {1, 2, 3, 1, 1, 4, 99, 6}, {2, 4, 5, cast, cast, 31, 0, 7}};
    for (int p = 0; p < 3; p++) {
      for (int what = 0; what < 8; what++) {
        due.is("P10 paper(" + p + ", " + what + ")", x.paper(p, what), want[p][what]);
      }
    }
    for (int wrong : new int[] {-1, 8, LEAST, GREATEST}) {
      due.is("P10 paper(0, " + wrong + ")", x.paper(0, wrong), SentRoads.BAD);
      due.is("P10 paper(" + wrong + ", 3)", x.paper(wrong, 3), SentRoads.BAD);
    }
    due.is("P10 paper(3, 4)", x.paper(3, 4), SentRoads.BAD);
  }

  private static void bars() {
    SentRoads x = new SentRoads();
    x.custom(0, 1, 5, 0, 0);
    due.is("P11 bars", x.bars(0, 31), 5);
    due.is("P11 as it became", x.paper(0, 5), 31);
    due.is("P11 back", x.bars(0, 0), 31);
    for (int wrong : new int[] {-1, 32, LEAST, GREATEST}) {
      due.is("P11 bars(0, " + wrong + ")", x.bars(0, wrong), SentRoads.BAD);
      due.is("P11 bars(" + wrong + ", 0)", x.bars(wrong, 0), SentRoads.BAD);
    }
    due.is("P11 bars(1, 0)", x.bars(1, 0), SentRoads.BAD);
    due.is("P11 nothing changed", x.paper(0, 5), 0);
  }

  private static void matchesAndYearsOf() {
    SentRoads x = new SentRoads();
    x.deed(7, 9, 0, 0);
    x.crime(0, 3, 0, 0, 5, false);
    x.crime(0, 1, 4, 0, 30, false);
    x.crime(1, 1, 0, 0, 8, false);
    x.crime(0, 4, 8, 2, 12, true);
    x.deed(1, 63, 0, 0);
    due.is("P12 CHARGED", x.matches(0, 0, 0), 0b1001);
    due.is("P12 SHOWN", x.matches(0, 0, 1), 0b0010);
    due.is("P12 of the other LAND", x.matches(0, 1, 0), 0b0100);
    due.is("P12 nowhere", x.matches(0, 5, 0), 0);
    due.is("P12 a DEED that came later", x.matches(1, 0, 0), 0b0010);
    due.is("P12 all marks", x.matches(1, 0, 1), 0b0001);
    due.is("P13 CHARGED: the greatest", x.yearsOf(0, 0, 0), 12);
    due.is("P13 SHOWN", x.yearsOf(0, 0, 1), 30);
    due.is("P13 the other LAND", x.yearsOf(0, 1, 1), 8);
    due.is("P13 none", x.yearsOf(0, 5, 0), 0);
    int[][] wrong = {{-1, 0, 0}, {2, 0, 0}, {0, -1, 0}, {0, 6, 0}, {0, 0, -1}, {0, 0, 2}, {LEAST, 0, 0}, {0, GREATEST, 0}};
    for (int[] w : wrong) {
      due.is("P12 " + java.util.Arrays.toString(w), x.matches(w[0], w[1], w[2]), SentRoads.BAD);
      due.is("P13 " + java.util.Arrays.toString(w), x.yearsOf(w[0], w[1], w[2]), SentRoads.BAD);
    }
  }

  private static void shows() {
    SentRoads x = new SentRoads();
    x.crime(0, 1, 0, 0, 5, false);
    x.crime(0, 32, 0, 0, 9, false);
    x.deed(1, 1, 0, 0);
    x.sheet(2, 2, 7);
    x.item(2, 2, 1, 5);
    x.item(2, 2, 6, LEAST);
    due.is("P14 from 1", x.shows(0, 2, 2, 1), 1);
    due.is("P14 what it is then", x.matches(0, 0, 1), 3);
    due.is("P14 YEARS then", x.yearsOf(0, 0, 1), 9);
    due.is("P14 from 0", x.shows(0, 2, 2, 0), 33);
    due.is("P14 YEARS fall, too", x.yearsOf(0, 0, 1), 0);
    due.is("P14 again", x.shows(0, 2, 2, 1), 2);
    for (int from : new int[] {2, -1, LEAST, GREATEST}) {
      due.is("P14 INDEX " + from, x.shows(0, 2, 2, from), SentRoads.INDEX);
    }
    x.sheet(1, 0, 5);
    due.is("P14 a short row", x.shows(0, 1, 0, 0), SentRoads.INDEX);
    x.sheet(1, 0, 6);
    due.is("P14 CAST", x.shows(0, 1, 1, 0), SentRoads.CAST);
    due.is("P14 CAST ahead of INDEX", x.shows(0, 1, 1, -1), SentRoads.CAST);
    due.is("P14 NULL", x.shows(0, 0, 1, 0), SentRoads.NULL);
    due.is("P14 NULL ahead of INDEX", x.shows(0, 0, 1, -1), SentRoads.NULL);
    int[][] wrong = {{-1, 2, 2}, {1, 2, 2}, {0, -1, 2}, {0, 4, 2}, {0, 2, -1}, {0, 2, 3}, {0, 0, 3}, {1, 0, 0}};
    for (int[] w : wrong) {
      due.is("P14 " + java.util.Arrays.toString(w), x.shows(w[0], w[1], w[2], -1), SentRoads.BAD);
    }
    due.is("P14 nothing changed", x.shows(0, 1, 0, 0), 33);
    due.is("P14 nothing SHOWN", x.matches(0, 0, 1), 0);
  }

  private static void count() {
    SentRoads x = Due.of("A:a1..4;B:a1..4;A>B*;B>A*;C>D*");
    x.deed(1, 1, 0, 0);
    x.deed(1, 1, 0, 0);
    x.demand(1, 1, 0);
    x.send(0);
    x.send(1);
    x.send(0);
    x.send(2);
    int[] want = {2, 2, 3, 1, 3};
    for (int what = 0; what < 5; what++) {
      due.is("P15 count(" + what + ")", x.count(what), want[what]);
    }
    for (int wrong : new int[] {-1, 5, LEAST, GREATEST}) {
      due.is("P15 count(" + wrong + ")", x.count(wrong), SentRoads.BAD);
    }
  }
}
