/** The sentences under "Terms" of demands, promises needed and mending, and those of images: each edge on its own. */
public final class DemandTermsTest {
  private static final int NONE = SentRoads.NONE;
  private static final Due due = new Due();

  public static void main(String[] args) {
    demandStands();
    aheadByYears();
    aheadByYearsOfDeedsThatGo();
    aheadByItsLand();
    aheadByDay();
    aheadByNumber();
    aheadOneOutweighsTheNext();
    promisesFewest();
    promisesOfPapersThatLet();
    mendedCountsBarsThatStand();
    mendedByTheFewest();
    mendedAlone();
    mendedWhatCantFall();
    imageIsKept();
    imageIsItsOwn();
    imageTakesBack();
    imageWithoutSheetsAndTape();
    due.end();
  }

  private static void row(String what, SentRoads x, int... want) {
    for (int i = 0; i < want.length; i++) {
      due.is("P28 " + what + ": ahead(" + i + ")", x.ahead(i), want[i]);
    }
    due.is("P28 " + what + ": no more", x.ahead(want.length), NONE);
  }

  /** It STANDS, if some paper FROM where he sits TO that LAND LETS one of its DEEDS go. */
  private static void demandStands() {
    SentRoads x = Due.of("A:a1..4;B:a1..4;C:a1..4;A:b1..4", "A>B*p;C>B*;A>B*h;B>A*");
    x.deed(33, 33, 4, 0);
    x.deed(1, 1, 0, 0);
    x.deed(2, 2, 4, 0);
    x.demand(1, 1, 0);
    x.demand(1, 2, 0);
    x.demand(1, 4, 0);
    x.demand(1, 7, 0);
    x.demand(0, 7, 0);
    x.demand(2, 7, 0);
    row("DEED 0 by paper 2, DEED 1 by paper 0", x, 0, 1, 3);
    x.bars(2, 20);
    row("DEED 0 by none", x, 1, 3);
    x.bars(0, 20);
    row("none STANDS", x);
    x.man(1, 2);
    row("from C", x, 0, 1, 3);
    x.man(1, 1);
    row("from B to A", x, 4);
    x.man(1, 5);
    row("from F", x);
  }

  private static void aheadByYears() {
    SentRoads x = Due.of("A:a1..4;B:a1..1;C:a1..2;D:a1..40;A>B*;A>C*;A>D*");
    x.deed(1, 1, 4, 0);
    x.demand(1, 1, 0);
    x.demand(2, 1, 0);
    x.demand(3, 1, 0);
    row("the greater YEARS", x, 2, 1, 0);
  }

  /** In its LAND as CHARGED, the greatest over those of its DEEDS that some such paper LETS go. */
  private static void aheadByYearsOfDeedsThatGo() {
    SentRoads x = Due.of("A:a1..9;B:a1..5;C:a1..6;B:b1..30;C:b1..6;A:b1..40;B:c1..7;A:c1..1", "A>B*p;A>C*");
    x.deed(1, 1, 4, 0);
    x.deed(34, 34, 4, 0);
    x.deed(4, 4, 4, 0);
    x.demand(1, 3, 0);
    x.demand(2, 3, 0);
    row("30 years do not count, DEED 1 stays", x, 1, 0);
    x.bars(0, 0);
    row("DEED 1 goes: 30", x, 0, 1);
    x.bars(0, 4);
    x.demand(1, 5, 0);
    row("the greatest of 5 and 7", x, 2, 1, 0);
    x.demand(1, 4, 0);
    row("7, too", x, 2, 3, 1, 0);
    x.demand(1, 7, 0);
    row("the greatest of what goes: 7", x, 2, 3, 4, 1, 0);
  }

  /** Of like ones that in whose LAND one of these DEEDS was: of those that go. */
  private static void aheadByItsLand() {
    SentRoads x = Due.of("A:a1..4;B:a1..4;C:a1..4", "A>B*p;A>C*p");
    x.deed(1, 1, 2, 0);
    x.deed(1, 1, 0, 0);
    x.deed(33, 33, 1, 0);
    x.demand(1, 7, 0);
    x.demand(2, 2, 0);
    x.demand(2, 3, 0);
    row("DEED 0 was in C; DEED 2 was in B, but stays", x, 2, 0, 1);
    x.bars(0, 0);
    row("DEED 2 goes", x, 0, 2, 1);
    x.bars(0, 4);
    row("DEED 2 stays again", x, 2, 0, 1);
  }

  private static void aheadByDay() {
    SentRoads x = Due.of("A:a1..4;B:a1..4;A>B*");
    x.deed(1, 1, 4, 0);
    x.demand(1, 1, 99);
    x.demand(1, 1, 1);
    x.demand(1, 1, 0);
    x.demand(1, 1, 98);
    row("the earlier DAY", x, 2, 1, 3, 0);
  }

  private static void aheadByNumber() {
    SentRoads x = Due.of("A:a1..4;B:a1..4;A>B*");
    x.deed(1, 1, 4, 0);
    for (int i = 0; i < 8; i++) {
      x.demand(1, 1, 7);
    }
    row("the first", x, 0, 1, 2, 3, 4, 5, 6, 7);
  }

  private static void aheadOneOutweighsTheNext() {
    SentRoads x = Due.of("A:a1..4;B:a1..4;C:a1..5;D:a1..4", "A>B*;A>C*;A>D*");
    x.deed(1, 1, 1, 0);
    x.demand(3, 1, 0);
    x.demand(1, 1, 99);
    x.demand(2, 1, 99);
    x.demand(3, 1, 99);
    row("YEARS ahead of its LAND ahead of the DAY ahead of the number", x, 2, 1, 0, 3);
  }

  private static void needed(int want, int... promised) {
    SentRoads x = Due.of("A:a1..4;B:a1..4");
    x.deed(1, 1, 4, 0);
    for (int p : promised) {
      x.custom(0, 1, 0, 0, p);
    }
    due.is("P29 of " + java.util.Arrays.toString(promised), x.promises(1, 0), want);
  }

  /** That with the fewest PROMISED, of like ones the least bits. */
  private static void promisesFewest() {
    needed(NONE);
    needed(0, 7, 0, 1);
    needed(0, 0);
    needed(7, 7);
    needed(1, 1, 2, 4);
    needed(1, 4, 2, 1);
    needed(2, 4, 2);
    needed(4, 3, 4);
    needed(4, 4, 3, 7);
    needed(3, 6, 5, 3);
    needed(5, 6, 5, 7);
    needed(6, 7, 6);
    needed(0, 7, 6, 5, 4, 3, 2, 1, 0);
  }

  /** Of papers FROM where he sits TO it that LET it go. */
  private static void promisesOfPapersThatLet() {
    SentRoads x = Due.of("A:a1..4;B:a1..4;C:a1..4", "A>B*o;A>C*;C>B*;A>By5;A>B*p+D;A>B*+DS");
    x.deed(1, 1, 4, 0);
    x.deed(33, 33, 4, 0);
    x.deed(2, 2, 4, 0);
    due.is("P29 DEED 0", x.promises(1, 0), 1);
    due.is("P29 DEED 1: not by D alone", x.promises(1, 1), 3);
    due.is("P29 DEED 2 is not COVERED", x.promises(1, 2), NONE);
    due.is("P29 to where he sits", x.promises(0, 0), NONE);
    x.man(0, 4);
    due.is("P29 he is not of A", x.promises(1, 0), 0);
    x.man(1, 2);
    due.is("P29 from C", x.promises(1, 1), 0);
    due.is("P29 none from C to A", x.promises(0, 1), NONE);
  }

  private static SentRoads aged(String papers) {
    SentRoads x = Due.of("A:a1..4;B:a1..4;C:a1..4!;D:a1..4;E:a1..4", papers);
    x.deed(33, 33, 0, 0);
    x.man(2, 6);
    return x;
  }

  /** BARS (each of a paper; AGE is one), all that stand against it. */
  private static void mendedCountsBarsThatStand() {
    due.is("P30 none", aged("A>C*").mended(2, 0), 0);
    due.is("P30 o", aged("A>C*o").mended(2, 0), 1);
    due.is("P30 j does not stand", aged("A>C*j").mended(2, 0), 0);
    due.is("P30 p", aged("A>C*p").mended(2, 0), 1);
    due.is("P30 k", aged("A>C*k").mended(2, 0), 1);
    due.is("P30 k does not stand", aged("A>C*k+D").mended(2, 0), 0);
    due.is("P30 h", aged("A>C*h").mended(2, 0), 1);
    due.is("P30 AGE", aged("A>C*t5").mended(2, 0), 1);
    due.is("P30 AGE does not stand", aged("A>C*t6").mended(2, 0), 0);
    due.is("P30 five of one paper", aged("A>C*ojpkht5").mended(2, 0), 5);
    due.is("P30 the same BAR of two papers", aged("A>B*p;B>C*p").mended(2, 0), 2);
    due.is("P30 AGE of two papers", aged("A>B*t1;B>C*t1").mended(2, 0), 2);
    due.is("P30 of four papers", aged("A>B*opht5;B>D*opht5;D>E*opht5;E>C*ojpkht5").mended(2, 0), 4 + 2 + 2 + 3);
  }

  private static void mendedByTheFewest() {
    due.is("P30 of two papers alike", aged("A>B*oph;A>B*op;A>B*opht5").mended(1, 0), 2);
    due.is("P30 the longer one", aged("A>C*ph;A>B*;B>C*p").mended(2, 0), 1);
    due.is("P30 the shorter one", aged("A>C*p;A>B*p;B>C*p").mended(2, 0), 1);
    due.is("P30 the longest, without BARS", aged("A>C*o;A>B*o;B>C*;A>D*;D>E*;E>B*").mended(2, 0), 0);
    due.is("P30 whatever the papers' order", aged("B>C*;E>B*;D>E*;A>D*p;A>B*ph").mended(2, 0), 1);
    due.is("P30 late ones are found better", aged("B>C*;D>B*;E>D*;A>E*;A>B*o").mended(2, 0), 0);
  }

  /** As if there were that DEED alone: no other one takes him there. */
  private static void mendedAlone() {
    SentRoads x = Due.of("A:a1..4;B:a1..4;B:b1..4;A>B*");
    x.deed(1, 1, 4, 0);
    x.deed(2, 2, 4, 0);
    due.is("P24 SENT for DEED 0, TRIED for DEED 1", x.road(1, 1, -1), 1);
    due.is("P30 DEED 1 alone has no ROAD", x.mended(1, 1), NONE);
    due.is("P30 DEED 0", x.mended(1, 0), 0);
    SentRoads s = Due.of("A:a1..4;B:a1..4;A:b1..4;B:b1..4;A>B*p+S;B>A*+S;A>B*+S");
    s.deed(1, 1, 4, 0);
    s.deed(34, 34, 4, 0);
    due.is("P30 DEED 1", s.mended(1, 1), 0);
    s.send(0);
    due.is("P30 S binds to DEED 0: there", s.mended(1, 0), 0);
    due.is("P30 S binds to DEED 0: on", s.mended(0, 0), 0);
    due.is("P30 S does not bind to DEED 1: there", s.mended(1, 1), NONE);
    due.is("P30 S does not bind to DEED 1: on", s.mended(0, 1), NONE);
  }

  /** What is no BAR does not fall: what a paper COVERS, JUDGED DEEDS, what binds him. */
  private static void mendedWhatCantFall() {
    due.is("P30 it does not COVER", aged("A>By5").mended(1, 0), NONE);
    due.is("P30 no paper", aged("B>A*").mended(1, 0), NONE);
    SentRoads j = aged("A>B*j");
    j.judged(0, true);
    due.is("P30 JUDGED", j.mended(1, 0), NONE);
    due.is("P30 O", aged("A>B*+O;B>C*").mended(2, 0), NONE);
    due.is("P30 O, by another one", aged("A>B*+O;B>C*;A>B*op").mended(2, 0), 2);
    due.is("P30 O, back is free", aged("A>B*+O;B>A*;A>C*op").mended(2, 0), 2);
    due.is("P30 D", aged("A>B*+D;B>C*").mended(2, 0), NONE);
    due.is("P30 D, PROMISED again", aged("A>B*+D;B>C*p+D").mended(2, 0), 1);
    due.is("P30 D, not DEADLY there", aged("A>B*+D;B>D*p;D>C*k").mended(2, 0), 2);
    due.is("P30 S, to that DEED", aged("A>B*+S;B>C*+S").mended(2, 0), 0);
  }

  /** All is as it was then: what every call of the face could have changed. */
  private static void imageIsKept() {
    SentRoads x = Fixture.rich();
    x.image();
    due.is("P22 SENT", x.send(1), 3);
    x.crime(0, 1, 0, 0, 40, true);
    x.deed(63, 63, 1, 1);
    x.custom(1, 2, 0, 0, 0);
    x.bars(0, 0);
    x.world();
    Due.world(x, "B:a1..40!;B>A*");
    x.bars(1, 0);
    x.shows(0, 2, 2, 0);
    x.man(0, 1);
    x.man(2, 99);
    x.judged(0, true);
    x.man(1, 0);
    x.demand(2, 1, 0);
    due.is("P33 restore", x.restore(), 1);
    Due.type(x, "D:cd-e 3..1");
    due.is("P33 as it was then", Probe.now(x).equals(Probe.now(Fixture.rich())) ? 1 : 0, 1);
  }

  /** Nothing that comes later changes the IMAGE; a new one takes its place; it can be restored again and again. */
  private static void imageIsItsOwn() {
    SentRoads x = new SentRoads();
    due.is("P33 none", x.restore(), NONE);
    due.is("P32 of a new object", x.image(), 1);
    x.crime(0, 1, 0, 0, 9, false);
    x.deed(1, 1, 0, 0);
    x.man(0, 3);
    due.is("P33 restore", x.restore(), 1);
    due.is("P33 empty", x.count(0) + x.count(1) + x.man(0, 0), 0);
    x.crime(5, 2, 0, 0, 7, true);
    x.deed(2, 2, 0, 0);
    due.is("P32 another", x.image(), 1);
    x.judged(0, true);
    due.is("P33 restore", x.restore(), 1);
    due.is("P33 again", x.restore(), 1);
    due.is("P33 the newer one", x.count(0) * 10 + x.count(1), 11);
    due.is("P33 its CRIME", x.crimeOf(0, 4), 7);
    due.is("P33 not JUDGED", x.judged(0, false), 0);
    due.is("P13 the DEED's YEARS", x.yearsOf(0, 5, 0), 7);
  }

  /** What comes in the place of something that an IMAGE took back has nothing of it. */
  private static void imageTakesBack() {
    SentRoads x = Due.of("A:a1..4;B:a1..4;A>B*+D;B>A*;A>B*j");
    x.deed(2, 2, 4, 0);
    x.image();
    x.crime(0, 2, 0, 0, 40, true);
    x.crime(1, 2, 0, 0, 30, true);
    x.deed(3, 3, 0, 9);
    x.judged(1, true);
    x.send(0);
    due.is("P20 DEADLY in A: D binds him", x.lets(1), 0);
    x.restore();
    due.is("P12 the DEED has the CRIMES no more", x.matches(0, 0, 0) + x.matches(0, 1, 1), 0);
    due.is("P13 nor their YEARS", x.yearsOf(0, 0, 0) + x.yearsOf(0, 1, 1), 0);
    x.crime(0, 4, 0, 0, 7, false);
    x.crime(1, 8, 0, 0, 7, false);
    due.is("P3 a DEED in the other's place", x.deed(1, 1, 4, 0), 1);
    due.is("P17 it is not JUDGED", x.judged(1, false), 0);
    due.is("P12 it is no CRIME of A but the first", x.matches(1, 0, 0) * 100 + x.matches(1, 0, 1), 101);
    due.is("P13 its YEARS", x.yearsOf(1, 0, 0) * 100 + x.yearsOf(1, 1, 1), 404);
    due.is("P12 no other CRIMES", x.matches(0, 0, 0) + x.matches(0, 1, 1), 0);
    due.is("P20 no j", x.lets(2), 2);
    due.is("P22 SENT", x.send(0), 2);
    due.is("P20 it is not DEADLY", x.lets(1), 2);
  }

  private static void imageWithoutSheetsAndTape() {
    SentRoads x = new SentRoads();
    x.deed(1, 1, 0, 0);
    x.sheet(0, 0, 6);
    x.item(0, 0, 0, 1);
    x.sheet(1, 1, 7);
    Due.type(x, "A:a1");
    x.image();
    x.item(0, 0, 5, 1);
    x.drop(1);
    x.sheet(2, 2, 16);
    Due.type(x, "..2;");
    x.restore();
    due.is("P32 an item stays", x.shows(0, 0, 0, 0), 1);
    due.is("P32 as it became", x.shows(0, 0, 0, 0), 33);
    due.is("P32 a SHEET stays away", x.drop(1), SentRoads.NULL);
    due.is("P32 a SHEET stays", x.drop(2), 16);
    Due.type(x, "B>C*");
    due.is("P32 THE TAPE stays", x.world(), 2);
  }
}
