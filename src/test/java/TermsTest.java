/** The sentences under "Terms" of lands, crimes, deeds and papers: each edge that one of them names, on its own. */
public final class TermsTest {
  private static final int BAD = SentRoads.BAD, NONE = SentRoads.NONE;
  private static final Due due = new Due();

  public static void main(String[] args) {
    landsAndMarks();
    marksAreCrime();
    numbersAsTheyCome();
    yearsAreTheGreatestMost();
    deadly();
    deadlyBehindAChange();
    shownAnew();
    coversByYears();
    coversWhereAndHow();
    coversByName();
    coversByCustom();
    barOfHisLand();
    barOfJudged();
    barOfMarkF();
    barOfDeath();
    barOfTheDeedsLand();
    barOfAge();
    barsAlone();
    partsAt();
    due.end();
  }

  /** LANDS are A .. F (0 .. 5), MARKS a .. f (0 .. 5). */
  private static void landsAndMarks() {
    for (int land = 0; land < 6; land++) {
      for (int mark = 0; mark < 6; mark++) {
        SentRoads x = Due.of("" + (char) ('A' + land) + ':' + (char) ('a' + mark) + "1..2");
        due.is("T1 LAND by its letter", x.crimeOf(0, 0), land);
        due.is("T1 mark by its letter", x.crimeOf(0, 1), 1 << mark);
        for (int d = 0; d < 6; d++) {
          x.deed(1 << d, 63 - (1 << d), d, 0);
          due.is("T1 mark " + mark + ", CHARGED " + d, x.matches(d, land, 0), d == mark ? 1 : 0);
          due.is("T1 mark " + mark + ", SHOWN all but " + d, x.matches(d, land, 1), d == mark ? 0 : 1);
          due.is("T1 in another LAND", x.matches(d, (land + 1) % 6, 0) + x.matches(d, (land + 5) % 6, 1), 0);
        }
      }
    }
  }

  private static void are(int must, int but, int marks, int want) {
    SentRoads x = new SentRoads();
    x.crime(3, must, but, 0, 7, false);
    if (marks != 0) {
      x.deed(marks, marks, 0, 0);
      due.is("T1 CHARGED " + marks + " ARE " + must + " - " + but, x.matches(0, 3, 0), want);
    } else {
      x.deed(1, 0, 0, 0);
    }
    due.is("T1 SHOWN " + marks + " ARE " + must + " - " + but, x.matches(0, 3, 1), want);
    due.is("T1 YEARS of SHOWN " + marks, x.yearsOf(0, 3, 1), 7 * want);
  }

  /** Marks ARE a CRIME, if all of MUST and none of BUT are among them. */
  private static void marksAreCrime() {
    are(0b000110, 0b110000, 0b000110, 1);
    are(0b000110, 0b110000, 0b001111, 1);
    are(0b000110, 0b110000, 0b000010, 0);
    are(0b000110, 0b110000, 0b000100, 0);
    are(0b000110, 0b110000, 0b001001, 0);
    are(0b000110, 0b110000, 0b010110, 0);
    are(0b000110, 0b110000, 0b100110, 0);
    are(0b000110, 0b110000, 0b111111, 0);
    are(0b000110, 0b110000, 0, 0);
    are(0b111111, 0, 0b111111, 1);
    are(0b111111, 0, 0b011111, 0);
    are(0b111111, 0, 0b111110, 0);
    are(0b000001, 0b111110, 0b000001, 1);
    are(0b000001, 0b111110, 0b000011, 0);
    are(0b000001, 0b111110, 0b100001, 0);
    are(0b100000, 0, 0b111111, 1);
    are(0b100000, 0, 0, 0);
  }

  /** CRIMES, DEEDS, papers, DEMANDS get their numbers as they come, by whatever call they come. */
  private static void numbersAsTheyCome() {
    SentRoads x = new SentRoads();
    due.is("T1 CRIME 0", x.crime(0, 1, 0, 0, 1, false), 0);
    due.is("T1 paper 0", x.years(0, 1, 1, 0, 0, 0), 0);
    due.is("T1 a text", Due.world(x, "B:b1..2;C>D*;B:c1..3;D>E y9"), 4);
    due.is("T1 CRIME 3", x.crime(2, 1, 0, 0, 4, false), 3);
    due.is("T1 paper 3", x.named(0, 1, 2, 0, 0, 0), 3);
    due.is("T1 paper 4", x.custom(4, 5, 0, 0, 0), 4);
    for (int c = 0; c < 4; c++) {
      due.is("T1 MOST of CRIME " + c, x.crimeOf(c, 4), c + 1);
      due.is("T1 no DEATH of CRIME " + c, x.crimeOf(c, 5), 0);
    }
    int[] from = {0, 2, 3, 0, 4};
    for (int p = 0; p < 5; p++) {
      due.is("T1 FROM of paper " + p, x.paper(p, 1), from[p]);
    }
    due.is("T1 DEED 0", x.deed(1, 1, 0, 0), 0);
    due.is("T1 DEED 1", x.deed(1, 1, 0, 0), 1);
  }

  /** YEARS: the greatest MOST of CRIMES there that these marks ARE (0: none). */
  private static void yearsAreTheGreatestMost() {
    int[][] mosts = {{9, 4}, {4, 9}, {9, 9}, {1, 40}, {40, 1}};
    for (int[] m : mosts) {
      SentRoads x = new SentRoads();
      x.crime(2, 1, 0, m[0], m[0], false);
      x.deed(1, 1, 0, 0);
      due.is("T1 YEARS of one", x.yearsOf(0, 2, 0) * 100 + x.yearsOf(0, 2, 1), m[0] * 101);
      x.crime(2, 1, 0, 0, m[1], false);
      x.crime(2, 2, 0, 0, 40, false);
      x.crime(1, 1, 0, 0, 40, false);
      x.deed(1, 1, 0, 0);
      for (int d = 0; d < 2; d++) {
        due.is("T1 YEARS of two, CHARGED", x.yearsOf(d, 2, 0), Math.max(m[0], m[1]));
        due.is("T1 YEARS of two, SHOWN", x.yearsOf(d, 2, 1), Math.max(m[0], m[1]));
      }
    }
    SentRoads x = Due.of("A:a40..40;A:b0..1");
    x.deed(2, 4, 0, 0);
    due.is("T1 YEARS 1", x.yearsOf(0, 0, 0), 1);
    due.is("T1 YEARS 0: none", x.yearsOf(0, 0, 1), 0);
  }

  /** DEADLY is seen by the bar k of a paper without D. */
  private static int isDeadly(SentRoads x, int deed, int to) {
    int paper = x.custom(to == 0 ? 1 : 0, to, 8, 0, 0);
    return x.barred(paper, deed) / 8;
  }

  /** DEADLY in a LAND, if as CHARGED it is a CRIME there with DEATH. */
  private static void deadly() {
    SentRoads x = Due.of("C:a1..4!;C:a1..40;C:b1..9;D:b-c1..2!");
    x.deed(1, 0, 0, 0);
    x.deed(2, 1, 0, 0);
    x.deed(6, 2, 0, 0);
    x.deed(3, 0, 0, 0);
    due.is("T1 DEADLY, not by the greatest MOST", isDeadly(x, 0, 2), 1);
    due.is("T1 not DEADLY in another LAND", isDeadly(x, 0, 3), 0);
    due.is("T1 not DEADLY as SHOWN alone", isDeadly(x, 1, 2), 0);
    due.is("T1 DEADLY where it is with DEATH", isDeadly(x, 1, 3), 1);
    due.is("T1 not DEADLY: a BUT is CHARGED", isDeadly(x, 2, 3), 0);
    due.is("T1 DEADLY by one of two", isDeadly(x, 3, 2), 1);
    due.is("T1 not DEADLY where there are no CRIMES", isDeadly(x, 0, 5), 0);
  }

  /** A CRIME that comes later makes a DEED DEADLY; an IMAGE without it takes that back; what is SHOWN does not count. */
  private static void deadlyBehindAChange() {
    SentRoads x = Due.of("A:a1..4;B:a1..4;A>B*k");
    x.deed(1, 1, 3, 0);
    x.image();
    due.is("T1 not DEADLY", x.barred(0, 0), 0);
    x.crime(1, 1, 0, 0, 1, true);
    due.is("T1 DEADLY now", x.barred(0, 0), 8);
    x.sheet(0, 0, 6);
    x.shows(0, 0, 0, 0);
    due.is("T1 DEADLY still, nothing SHOWN", x.barred(0, 0), 8);
    x.restore();
    due.is("T1 not DEADLY as it was", x.barred(0, 0), 0);
    due.is("T1 SHOWN as it was", x.covers(0), 1);
  }

  /** What is SHOWN by a SHEET counts as what was SHOWN from the start. */
  private static void shownAnew() {
    SentRoads x = Due.of("A:a1..4;A:b1..9;B:a1..4;A>B*;A>By5");
    x.deed(1, 2, 4, 0);
    due.is("T1 as SHOWN at first", x.matches(0, 0, 1) * 10000 + x.yearsOf(0, 0, 1) * 100 + x.covers(0), 20900);
    x.sheet(0, 2, 6);
    x.item(0, 2, 0, -5);
    due.is("P14 SHOWN as it was", x.shows(0, 0, 2, 0), 2);
    due.is("T1 as SHOWN now", x.matches(0, 0, 1) * 10000 + x.yearsOf(0, 0, 1) * 100 + x.covers(0), 10401);
    due.is("T1 as CHARGED still", x.matches(0, 0, 0) * 100 + x.yearsOf(0, 0, 0), 104);
    x.item(0, 2, 1, 1);
    due.is("T1 the SHEET is not the DEED", x.yearsOf(0, 0, 1), 4);
    due.is("P14 SHOWN as it was", x.shows(0, 0, 2, 0), 1);
    due.is("T1 both", x.matches(0, 0, 1) * 10000 + x.yearsOf(0, 0, 1) * 100 + x.covers(0), 30901);
  }

  private static int covered(int n, int mostFrom, int mostTo) {
    SentRoads x = new SentRoads();
    if (mostFrom > 0) {
      x.crime(4, 1, 0, 0, mostFrom, false);
    }
    if (mostTo > 0) {
      x.crime(2, 1, 0, 0, mostTo, false);
    }
    x.deed(1, 1, 0, 0);
    x.years(4, 2, n, 0, 0, 0);
    return x.covers(0);
  }

  /** YEARS: its YEARS in FROM as SHOWN and in TO as CHARGED are n or more (n 1 .. 40). */
  private static void coversByYears() {
    for (int n : new int[] {1, 2, 7, 39, 40}) {
      due.is("T1 n " + n + ": n, n", covered(n, n, n), 1);
      due.is("T1 n " + n + ": 40, 40", covered(n, 40, 40), 1);
      due.is("T1 n " + n + ": n - 1, n", covered(n, n - 1, n), 0);
      due.is("T1 n " + n + ": n, n - 1", covered(n, n, n - 1), 0);
      due.is("T1 n " + n + ": n - 1, 40", covered(n, n - 1, 40), 0);
      due.is("T1 n " + n + ": 40, n - 1", covered(n, 40, n - 1), 0);
      due.is("T1 n " + n + ": none, none", covered(n, 0, 0), 0);
    }
  }

  /** In FROM as SHOWN, in TO as CHARGED, and neither the other way. */
  private static void coversWhereAndHow() {
    SentRoads x = Due.of("A:a1..4;B:b1..4;A>By4;B>Ay4;A>By5");
    x.deed(2, 1, 0, 0);
    x.deed(1, 2, 0, 0);
    x.deed(3, 3, 0, 0);
    x.deed(2, 2, 0, 0);
    x.deed(1, 1, 0, 0);
    due.is("T1 A>B", x.covers(0), 0b00101);
    due.is("T1 B>A", x.covers(1), 0b00110);
    due.is("T1 A>B y5", x.covers(2), 0);
  }

  /** NAMED: as YEARS with n 1, and as CHARGED it is one of the CRIMES NAMED. */
  private static void coversByName() {
    SentRoads x = Due.of("A:a0..1;B:a0..1;B:b0..1;B:c0..1;A:d1..9");
    x.deed(1, 1, 0, 0);
    x.deed(2, 1, 0, 0);
    x.deed(6, 1, 0, 0);
    x.deed(1, 2, 0, 0);
    x.deed(8, 1, 0, 0);
    x.deed(4, 7, 0, 0);
    x.deed(4, 8, 0, 0);
    x.named(0, 1, 2, 0, 0, 0);
    x.named(0, 1, 4, 0, 0, 0);
    x.named(0, 1, 8, 0, 0, 0);
    x.named(0, 1, 10, 0, 0, 0);
    x.named(0, 1, 14, 0, 0, 0);
    x.named(1, 0, 17, 0, 0, 0);
    due.is("T1 NAMED a", x.covers(0), 0b0000001);
    due.is("T1 NAMED b", x.covers(1), 0b0000110);
    due.is("T1 NAMED c", x.covers(2), 0b1100100);
    due.is("T1 NAMED a, c", x.covers(3), 0b1100101);
    due.is("T1 NAMED all", x.covers(4), 0b1100111);
    due.is("T1 NAMED of A, from B", x.covers(5), 0b0011001);
  }

  /** CUSTOM: as YEARS with n 1, and all that is CHARGED is SHOWN. */
  private static void coversByCustom() {
    SentRoads x = Due.of("A:a0..1;B:a0..1;C:b0..1;A>B*;A>C*;C>B*");
    x.deed(1, 1, 0, 0);
    x.deed(33, 1, 0, 0);
    x.deed(33, 33, 0, 0);
    x.deed(1, 63, 0, 0);
    x.deed(63, 63, 0, 0);
    x.deed(63, 31, 0, 0);
    x.deed(63, 62, 0, 0);
    x.deed(1, 62, 0, 0);
    due.is("T1 CUSTOM A>B", x.covers(0), 0b00011101);
    due.is("T1 CUSTOM A>C", x.covers(1), 0b00010000);
    due.is("T1 CUSTOM C>B", x.covers(2), 0b00011000);
    for (int p = 0; p < 3; p++) {
      int same = x.custom(x.paper(p, 1), x.paper(p, 2), 0, 0, 0);
      due.is("T1 CUSTOM, not by a text", x.covers(same), x.covers(p));
    }
  }

  /** 1 o: he is of FROM. */
  private static void barOfHisLand() {
    SentRoads x = Due.of("A>B*o;F>A*o;A>F*jpkh");
    x.deed(1, 1, 1, 0);
    for (int of = 0; of < 6; of++) {
      x.man(0, of);
      x.man(1, 5 - of);
      due.is("T1 o, of " + of + ", FROM A", x.barred(0, 0), of == 0 ? 1 : 0);
      due.is("T1 o, of " + of + ", FROM F", x.barred(1, 0), of == 5 ? 1 : 0);
      due.is("T1 without o", x.barred(2, 0), 0);
    }
  }

  /** 2 j: the DEED is JUDGED. */
  private static void barOfJudged() {
    SentRoads x = Due.of("A>B*j;A>B*opkh");
    x.man(0, 5);
    for (int d = 0; d < 8; d++) {
      x.deed(1, 1, 1, 0);
    }
    x.judged(0, true);
    x.judged(7, true);
    for (int d = 0; d < 8; d++) {
      due.is("T1 j, DEED " + d, x.barred(0, d), d % 7 == 0 ? 2 : 0);
      due.is("T1 without j", x.barred(1, d), 0);
    }
    x.judged(0, false);
    due.is("T1 no longer JUDGED", x.barred(0, 0), 0);
  }

  /** 4 p: mark f is CHARGED. */
  private static void barOfMarkF() {
    SentRoads x = Due.of("A>B*p;A>B*ojkh");
    x.man(0, 5);
    int[] charged = {32, 63, 33, 31, 16, 1};
    for (int d = 0; d < charged.length; d++) {
      x.deed(charged[d], 63 - charged[d], 1, 0);
      due.is("T1 p, CHARGED " + charged[d], x.barred(0, d), charged[d] >= 32 ? 4 : 0);
      due.is("T1 without p", x.barred(1, d), 0);
    }
  }

  /** 8 k: the DEED is DEADLY in TO, and D is not PROMISED. */
  private static void barOfDeath() {
    SentRoads x = Due.of("B:a1..4!;A:b1..4!");
    x.man(0, 5);
    x.deed(1, 1, 1, 0);
    x.deed(2, 2, 1, 0);
    for (int promised = 0; promised < 8; promised++) {
      x.custom(0, 1, 8, 0, promised);
      due.is("T1 k, PROMISED " + promised, x.barred(promised, 0), promised % 2 == 0 ? 8 : 0);
      due.is("T1 k, DEADLY in FROM alone", x.barred(promised, 1), 0);
    }
    x.custom(0, 1, 23, 0, 0);
    due.is("T1 without k", x.barred(8, 0), 0);
  }

  /** 16 h: the DEED was in FROM. */
  private static void barOfTheDeedsLand() {
    SentRoads x = Due.of("A>B*h;F>A*h;A>F*ojpk");
    x.man(0, 2);
    for (int land = 0; land < 6; land++) {
      x.deed(1, 1, land, 0);
      due.is("T1 h, in " + land + ", FROM A", x.barred(0, land), land == 0 ? 16 : 0);
      due.is("T1 h, in " + land + ", FROM F", x.barred(1, land), land == 5 ? 16 : 0);
      due.is("T1 without h", x.barred(2, land), 0);
    }
  }

  private static int aged(int age, int year, int thisYear) {
    SentRoads x = new SentRoads();
    x.custom(0, 1, 0, age, 0);
    x.deed(1, 1, 1, year);
    x.man(2, thisYear);
    return x.barred(0, 0);
  }

  /** AGE (0: none; 1 .. 99): barred, if THIS YEAR is more than that behind its YEAR. */
  private static void barOfAge() {
    due.is("T1 AGE 0: none", aged(0, 0, 99), 0);
    due.is("T1 AGE 0: the same YEAR", aged(0, 50, 50), 0);
    due.is("T1 AGE 0: the next YEAR", aged(0, 50, 51), 0);
    due.is("T1 AGE 1: the same YEAR", aged(1, 50, 50), 0);
    due.is("T1 AGE 1: 1 behind", aged(1, 50, 51), 0);
    due.is("T1 AGE 1: 2 behind", aged(1, 50, 52), 32);
    due.is("T1 AGE 98: 98 behind", aged(98, 1, 99), 0);
    due.is("T1 AGE 98: 99 behind", aged(98, 0, 99), 32);
    due.is("T1 AGE 99: 99 behind", aged(99, 0, 99), 0);
    due.is("T1 AGE 1: THIS YEAR ahead of it", aged(1, 99, 0), 0);
    due.is("T1 AGE 1: by 2", aged(1, 52, 50), 0);
    due.is("T1 AGE 30: 31 behind", aged(30, 10, 41), 32);
    due.is("T1 AGE 30: 30 behind", aged(30, 10, 40), 0);
  }

  /** All BARS could stand: those that a paper has do, and AGE besides them. */
  private static void barsAlone() {
    SentRoads x = Due.of("A:a1..4;B:a1..4!;A>B*t9;A>B*");
    x.deed(33, 33, 0, 10);
    x.judged(0, true);
    x.man(2, 20);
    for (int bars = 0; bars < 32; bars++) {
      due.is("P11 BARS as they were", x.bars(0, bars), Math.max(0, bars - 1));
      x.bars(1, bars);
      due.is("P21 with AGE", x.barred(0, 0), bars + 32);
      due.is("P21 without", x.barred(1, 0), bars);
      due.is("P20 it LETS go what no BAR stands against", x.lets(1), bars == 0 ? 1 : 0);
      due.is("P20 AGE stands against it", x.lets(0), 0);
    }
    due.is("P21 barred, though it does not COVER", Due.of("A>B*o").barred(0, 0), BAD);
    SentRoads y = Due.of("A>B*o");
    y.deed(1, 1, 1, 0);
    due.is("P21 barred, though it does not COVER", y.barred(0, 0) * 10 + y.covers(0), 10);
    y.man(1, 4);
    due.is("P21 barred, wherever he sits", y.barred(0, 0), 1);
  }

  private static void parts(String world, int least, int many) {
    SentRoads x = Due.of(world);
    due.is("T3 the least marks of " + world, x.part(0, 1, 0), least);
    due.is("T3 how many of " + world, x.part(0, 1, 1), many);
    due.is("T3 the least marks, turned", x.part(1, 0, 0), least);
    due.is("T3 how many, turned", x.part(1, 0, 1), many);
  }

  /** Two LANDS PART at marks (1 .. 63) that ARE some CRIME in one, none in the other. */
  private static void partsAt() {
    parts("A:a-bcdef1..2", 1, 1);
    parts("A:abcdef1..2", 63, 1);
    parts("B:f1..2", 32, 32);
    parts("A:a1..2;A:b1..2;A:c1..2;A:d1..2;A:e1..2;A:f1..2", 1, 63);
    parts("A:a1..2;B:a1..40!", NONE, 0);
    parts("A:a1..2;B:ab1..2;B:a-b3..4", NONE, 0);
    parts("A:a1..2;A:a1..2;B:a1..2", NONE, 0);
    parts("A:a-b1..2;B:b-a1..2", 1, 32);
    parts("A:a1..2;B:a-bcdef1..2", 3, 31);
    parts("C:a1..2;D:b1..2", NONE, 0);
    parts("A:ab1..2;B:a1..2", 1, 16);
  }
}
