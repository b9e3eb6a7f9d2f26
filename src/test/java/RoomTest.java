/** Nothing there yet, and full: what a new object answers, the last of everything, and that the next has no room. */
public final class RoomTest {
  private static final int BAD = SentRoads.BAD, FULL = SentRoads.FULL, NONE = SentRoads.NONE, NULL = SentRoads.NULL;
  private static final int INDEX = SentRoads.INDEX;
  private static final Due due = new Due();

  public static void main(String[] args) {
    nothingYet();
    nothingYetOfTheMan();
    nothingYetOnSheets();
    papersWithoutDeeds();
    deedsWithoutPapers();
    lastCrime();
    lastDeed();
    lastPaper();
    lastDemand();
    fullOfOneThing();
    fullByWorlds();
    fullAndRestored();
    fullTapeAsWorld();
    rowsOfNoneAndOfSixteen();
    lowestBits();
    sentOften();
    due.end();
  }

  private static void nothingYet() {
    SentRoads x = new SentRoads();
    for (int what = 0; what < 5; what++) {
      due.is("P1 count(" + what + ")", x.count(what), 0);
    }
    for (int what = 0; what < 8; what++) {
      due.is("P9 crimeOf(0, " + what + ")", x.crimeOf(0, what), BAD);
      due.is("P10 paper(0, " + what + ")", x.paper(0, what), BAD);
    }
    due.is("P5 named: no CRIME is there", x.named(0, 1, 1, 0, 0, 0), BAD);
    due.is("P8 world: THE TAPE is empty", x.world(), -20);
    due.is("P11 bars", x.bars(0, 0), BAD);
    due.is("P12 matches", x.matches(0, 0, 0), BAD);
    due.is("P13 yearsOf", x.yearsOf(0, 0, 0), BAD);
    due.is("P17 judged", x.judged(0, false), BAD);
    due.is("P19 covers", x.covers(0), BAD);
    due.is("P20 lets", x.lets(0), BAD);
    due.is("P21 barred", x.barred(0, 0), BAD);
    due.is("P22 send", x.send(0), BAD);
    due.is("P27 demand: no DEED is there", x.demand(0, 1, 0), BAD);
    due.is("P28 ahead", x.ahead(0), NONE);
    due.is("P29 promises", x.promises(0, 0), BAD);
    due.is("P30 mended", x.mended(0, 0), BAD);
    due.is("P31 part: nowhere", x.part(0, 5, 0), NONE);
    due.is("P31 part: at none", x.part(0, 5, 1), 0);
    due.is("P33 restore", x.restore(), NONE);
    due.is("P7 type: THE TAPE is empty", x.type(0x41, 1), 1);
  }

  private static void nothingYetOfTheMan() {
    SentRoads x = new SentRoads();
    due.is("P18 D does not bind him", x.bound(0), 0);
    due.is("P18 O does not bind him", x.bound(1), NONE);
    due.is("P18 S binds to all: there are none", x.bound(2), 0);
    due.is("P18 he sits AT 0", x.bound(3), 0);
    due.is("P23 tried", x.tried(), 0);
    due.is("P24 road", x.road(0, 0, -1), BAD);
    due.is("P25 lands", x.lands(), 1);
    due.is("P26 SAFE", x.safe(0), 63);
    due.is("P26 HARBOURS", x.safe(1), 63);
    due.is("P16 OF 0", x.man(0, 5), 0);
    due.is("P16 AT 0", x.man(1, 5), 0);
    due.is("P16 THIS YEAR 0", x.man(2, 99), 0);
    due.is("P25 lands, where he sits now", x.lands(), 32);
    x.deed(1, 1, 0, 0);
    due.is("P17 not JUDGED at first", x.judged(0, false), 0);
  }

  private static void nothingYetOnSheets() {
    SentRoads x = new SentRoads();
    x.deed(1, 1, 0, 0);
    for (int s = 0; s < 4; s++) {
      for (int lane = 0; lane < 3; lane++) {
        due.is("P14 shows of SHEET " + s, x.shows(0, s, lane, 0), NULL);
        due.is("P36 item of SHEET " + s, x.item(s, lane, 0, 0), NULL);
      }
      due.is("P35 drop of SHEET " + s, x.drop(s), NULL);
    }
  }

  private static void papersWithoutDeeds() {
    SentRoads x = Due.of("A:a1..4;B:a1..4;A>B*;A>By1");
    due.is("P19 covers", x.covers(0) + x.covers(1), 0);
    due.is("P20 lets", x.lets(0) + x.lets(1), 0);
    due.is("P22 send", x.send(1), NONE);
    due.is("P21 barred", x.barred(0, 0), BAD);
    due.is("P23 tried", x.tried(), 0);
    due.is("P25 lands", x.lands(), 1);
    due.is("P26 SAFE", x.safe(0), 63);
    due.is("P26 HARBOURS", x.safe(1), 63);
    due.is("P24 road", x.road(1, 0, -1), BAD);
  }

  private static void deedsWithoutPapers() {
    SentRoads x = Due.of("A:a1..4;B:a1..4");
    x.deed(1, 1, 0, 0);
    due.is("P27 demand", x.demand(1, 1, 0), 0);
    due.is("P28 it does not STAND", x.ahead(0), NONE);
    due.is("P23 tried", x.tried(), 1);
    due.is("P24 he sits there", x.road(0, 0, -1), 0);
    due.is("P24 no paper", x.road(1, 0, -1), NONE);
    due.is("P30 he sits there", x.mended(0, 0), 0);
    due.is("P30 no paper", x.mended(1, 0), NONE);
    due.is("P29 no paper", x.promises(1, 0), NONE);
    due.is("P26 SAFE", x.safe(0), 63);
    due.is("P26 HARBOURS", x.safe(1), 60);
    SentRoads y = new SentRoads();
    y.deed(63, 63, 0, 0);
    due.is("P23 no CRIMES: tried", y.tried(), 0);
    due.is("P24 no CRIMES: road", y.road(0, 0, -1), NONE);
    due.is("P30 no CRIMES: mended", y.mended(0, 0), NONE);
    due.is("P12 no CRIMES: matches", y.matches(0, 0, 0), 0);
    due.is("P13 no CRIMES: yearsOf", y.yearsOf(0, 0, 1), 0);
  }

  /** CRIME 23, of F, is told, is a bit, can be NAMED, is a CRIME like the first. */
  private static void lastCrime() {
    SentRoads x = new SentRoads();
    for (int i = 0; i < 23; i++) {
      due.is("P2 CRIME " + i, x.crime(0, 2, 0, 0, 1, false), i);
    }
    due.is("P9 no CRIME 23 yet", x.crimeOf(23, 0), BAD);
    due.is("P5 it can't be NAMED yet", x.named(0, 5, 1 << 23, 0, 0, 0), BAD);
    due.is("P2 CRIME 23", x.crime(5, 32, 31, 40, 40, true), 23);
    due.is("P2 no CRIME 24", x.crime(5, 32, 31, 40, 40, true), FULL);
    int[] want = {5, 32, 31, 40, 40, 1};
    for (int what = 0; what < 6; what++) {
      due.is("P9 crimeOf(23, " + what + ")", x.crimeOf(23, what), want[what]);
    }
    due.is("P9 no CRIME 24", x.crimeOf(24, 0), BAD);
    x.deed(32, 2, 0, 0);
    due.is("P12 its bit", x.matches(0, 5, 0), 1 << 23);
    due.is("P13 its YEARS", x.yearsOf(0, 5, 0), 40);
    due.is("P12 all others' bits", x.matches(0, 0, 1), (1 << 23) - 1);
    due.is("P5 NAMED", x.named(0, 5, 1 << 23, 8, 0, 0), 0);
    due.is("P10 told", x.paper(0, 4), 1 << 23);
    due.is("P19 COVERS", x.covers(0), 1);
    due.is("P21 DEADLY", x.barred(0, 0), 8);
    due.is("P5 no CRIME 24", x.named(0, 5, 1 << 24, 8, 0, 0), BAD);
    due.is("P31 PART", x.part(5, 1, 0) * 100 + x.part(5, 1, 1), 3201);
  }

  private static void lastDeed() {
    SentRoads x = Due.of("A:a1..4;B:a1..4;A:b1..4;B:b1..4;A>B*+S;B>A*");
    for (int i = 0; i < 7; i++) {
      due.is("P3 DEED " + i, x.deed(2, 2, 3, 99), i);
    }
    due.is("P12 no DEED 7 yet", x.matches(7, 0, 0), BAD);
    due.is("P27 it can't be DEMANDED yet", x.demand(1, 128, 0), BAD);
    due.is("P3 DEED 7", x.deed(1, 1, 5, 0), 7);
    due.is("P3 no DEED 8", x.deed(1, 1, 5, 0), FULL);
    due.is("P12 its CRIME", x.matches(7, 1, 0), 2);
    due.is("P12 no DEED 8", x.matches(8, 0, 0), BAD);
    due.is("P18 all", x.bound(2), 255);
    due.is("P19 all", x.covers(0), 255);
    due.is("P17 JUDGED", x.judged(7, true), 0);
    due.is("P17 was", x.judged(7, false), 1);
    due.is("P23 all", x.tried(), 255);
    due.is("P20 all", x.lets(0), 255);
    x.bars(0, 2);
    for (int i = 0; i < 7; i++) {
      x.judged(i, true);
    }
    due.is("P27 DEMANDED", x.demand(1, 128, 0) + x.demand(1, 255, 0), 1);
    due.is("P27 no DEED 8", x.demand(1, 256, 0), BAD);
    due.is("P28 it STANDS", x.ahead(0) * 10 + x.ahead(1), 1);
    due.is("P24 a ROAD", x.road(1, 7, 0), 0);
    due.is("P22 SENT for it alone", x.send(0), 128);
    due.is("P18 S to it", x.bound(2), 128);
    due.is("P20 it alone goes back", x.lets(1), 128);
    due.is("P23 it alone", x.tried(), 128);
  }

  private static void lastPaper() {
    SentRoads x = Due.of("A:a1..4;B:a1..4;F:a1..4");
    x.deed(1, 1, 3, 0);
    for (int i = 0; i < 11; i++) {
      due.is("P4 paper " + i, x.years(1, 0, 40, 0, 0, 0), i);
    }
    due.is("P10 no paper 11 yet", x.paper(11, 0), BAD);
    due.is("P6 paper 11", x.custom(0, 5, 31, 99, 7), 11);
    due.is("P6 no paper 12", x.custom(0, 5, 31, 99, 7), FULL);
    int[] want = {2, 0, 5, SentRoads.CAST, SentRoads.CAST, 31, 99, 7};
    for (int what = 0; what < 8; what++) {
      due.is("P10 paper(11, " + what + ")", x.paper(11, what), want[what]);
    }
    due.is("P10 no paper 12", x.paper(12, 0), BAD);
    due.is("P19 COVERS", x.covers(11), 1);
    due.is("P21 barred", x.barred(11, 0), 1);
    due.is("P30 one BAR", x.mended(5, 0), 1);
    due.is("P11 BARS", x.bars(11, 0), 31);
    due.is("P20 LETS", x.lets(11), 1);
    due.is("P24 a ROAD of it", x.road(5, 0, 0), 11);
    due.is("P25 F, too", x.lands(), 33);
    due.is("P26 SAFE", x.safe(0), 62);
    due.is("P29 PROMISES", x.promises(5, 0), 7);
    due.is("P22 SENT", x.send(11), 1);
    due.is("P18 AT F", x.bound(3), 5);
    due.is("P19 no paper 12", x.covers(12), BAD);
  }

  private static void lastDemand() {
    SentRoads x = Due.of("A:a1..4;B:a1..4;C:a1..5;A>B*;A>C*");
    x.deed(1, 1, 3, 0);
    for (int i = 0; i < 7; i++) {
      due.is("P27 DEMAND " + i, x.demand(1, 1, 99 - i), i);
    }
    due.is("P27 DEMAND 7", x.demand(2, 1, 99), 7);
    due.is("P27 no DEMAND 8", x.demand(2, 1, 0), FULL);
    int[] want = {7, 6, 5, 4, 3, 2, 1, 0};
    for (int i = 0; i < 8; i++) {
      due.is("P28 ahead(" + i + ")", x.ahead(i), want[i]);
    }
    due.is("P28 ahead(8)", x.ahead(8), NONE);
    due.is("P15 count", x.count(3), 8);
  }

  /** That there is no room for one thing does not hinder another. */
  private static void fullOfOneThing() {
    SentRoads x = new SentRoads();
    for (int i = 0; i < 24; i++) {
      x.crime(0, 1, 0, 0, 1, false);
    }
    due.is("P3 24 CRIMES: a DEED", x.deed(1, 1, 0, 0), 0);
    due.is("P6 24 CRIMES: a paper", x.custom(0, 1, 0, 0, 0), 0);
    due.is("P8 24 CRIMES: a paper by a text", Due.world(x, "A>B*;C>D y3"), 2);
    due.is("P8 24 CRIMES: no CRIME by a text", Due.world(x, "A:a1..2"), FULL);
    SentRoads y = new SentRoads();
    for (int i = 0; i < 12; i++) {
      y.custom(0, 1, 0, 0, 0);
    }
    due.is("P2 12 papers: a CRIME", y.crime(0, 1, 0, 0, 1, false), 0);
    due.is("P8 12 papers: a CRIME by a text", Due.world(y, "A:a1..2"), 1);
    due.is("P8 12 papers: no paper by a text", Due.world(y, "A:a1..2;A>B*"), FULL);
    due.is("P8 12 papers: no CRIME came", y.count(0), 2);
    SentRoads z = new SentRoads();
    for (int i = 0; i < 8; i++) {
      z.deed(1, 1, 0, 0);
    }
    due.is("P27 8 DEEDS: a DEMAND", z.demand(0, 255, 0), 0);
    due.is("P2 8 DEEDS: a CRIME", z.crime(0, 1, 0, 0, 7, false), 0);
    due.is("P13 all DEEDS learn of it", z.yearsOf(0, 0, 0) * 100 + z.yearsOf(7, 0, 1), 707);
  }

  private static void fullByWorlds() {
    SentRoads x = new SentRoads();
    String six = "A:a1..2;B:b1..2;C:c1..2;D:d1..2;E:e1..2;F:f1..2";
    for (int i = 1; i <= 4; i++) {
      due.is("P8 6 CRIMES", Due.world(x, six), 6);
      due.is("P15 count", x.count(0), 6 * i);
    }
    due.is("P8 no more", Due.world(x, "A:a1..2"), FULL);
    due.is("P8 12 papers", Due.world(x, "A>B*;B>C*;C>D*;D>E*;E>F*;F>A*;A>C*;B>D*;C>E*;D>F*;E>A*;F>B*"), 12);
    due.is("P8 no more", Due.world(x, "A>B*"), FULL);
    due.is("P9 the last CRIME", x.crimeOf(23, 0) * 100 + x.crimeOf(23, 1), 532);
    due.is("P10 the last paper", x.paper(11, 1) * 10 + x.paper(11, 2), 51);
  }

  private static void fullAndRestored() {
    SentRoads x = new SentRoads();
    x.deed(1, 1, 0, 0);
    x.image();
    fill(x);
    x.restore();
    int[] counts = {0, 1, 0, 0, 0};
    for (int what = 0; what < 5; what++) {
      due.is("P33 room again: count(" + what + ")", x.count(what), counts[what]);
    }
    due.is("P33 the CRIMES are gone", x.crimeOf(0, 0), BAD);
    due.is("P33 the DEED knows no CRIMES", x.yearsOf(0, 0, 0) + x.matches(0, 0, 0), 0);
    fill(x);
    x.image();
    x.restore();
    due.is("P2 still full", x.crime(0, 1, 0, 0, 1, false), FULL);
    due.is("P3 still full", x.deed(1, 1, 0, 0), FULL);
    due.is("P6 still full", x.custom(0, 1, 0, 0, 0), FULL);
    due.is("P27 still full", x.demand(0, 1, 0), FULL);
    due.is("P13 the DEED knows the CRIMES", x.yearsOf(0, 0, 0), 24);
    due.is("P13 the last DEED, too", x.yearsOf(7, 0, 1), 24);
  }

  private static void fill(SentRoads x) {
    for (int i = x.count(0); i < 24; i++) {
      due.is("P2 CRIME " + i, x.crime(0, 1, 0, 0, i + 1, false), i);
    }
    for (int i = x.count(1); i < 8; i++) {
      due.is("P3 DEED " + i, x.deed(1, 1, 0, 0), i);
    }
    for (int i = x.count(2); i < 12; i++) {
      due.is("P6 paper " + i, x.custom(0, 1, 0, 0, 0), i);
    }
    for (int i = x.count(3); i < 8; i++) {
      due.is("P27 DEMAND " + i, x.demand(0, 1, 0), i);
    }
  }

  /** 120 bytes that are a WORLD, the last of them a digit. */
  private static void fullTapeAsWorld() {
    SentRoads x = new SentRoads();
    String text = "A:abc-def0..40!;F>A y40 ojpkh t99 +DSO;B:f39..40;C:a-b 1..1;D:b2..2;E:c 3..3;F:d 4..4;A>By1t1;A>C*o;A>D*h;A>E*+D;A>Fy 40";
    due.is("the text has 120 bytes", text.length(), 120);
    due.is("P8 12 CLAUSES in 120 bytes", Due.world(x, text), 12);
    due.is("P8 n of the last", x.paper(x.count(2) - 1, 3), 40);
    due.is("P8 6 CRIMES", x.count(0), 6);
    due.is("P8 6 papers", x.count(2), 6);
  }

  private static void rowsOfNoneAndOfSixteen() {
    for (int lane = 0; lane < 3; lane++) {
      SentRoads x = new SentRoads();
      x.deed(1, 1, 0, 0);
      due.is("P34 a row of 0", x.sheet(0, lane, 0), 0);
      due.is("P36 it has no item 0", x.item(0, lane, 0, 1), INDEX);
      due.is("P14 no 6 items in it", x.shows(0, 0, lane, 0), INDEX);
      due.is("P34 a row of 5", x.sheet(1, lane, 5), 5);
      due.is("P14 no 6 items in it", x.shows(0, 1, lane, 0), INDEX);
      due.is("P34 a row of 6", x.sheet(2, lane, 6), 6);
      due.is("P14 6 items in it", x.shows(0, 2, lane, 0), 1);
      due.is("P34 a row of 16", x.sheet(3, lane, 16), 16);
      due.is("P36 its item 15", x.item(3, lane, 15, 1), 1);
      due.is("P36 it has no item 16", x.item(3, lane, 16, 1), INDEX);
      due.is("P14 its last 6", x.shows(0, 3, lane, 10), 0);
      due.is("P14 the last of all is SHOWN", x.shows(0, 3, lane, 9), 32);
      due.is("P14 no longer", x.shows(0, 3, lane, 11), INDEX);
      due.is("P34 a new row", x.sheet(3, lane, 16), 16);
      due.is("P14 nothing of the old one", x.shows(0, 3, lane, 10), 0);
      due.is("P14 nothing of the old one", x.shows(0, 3, lane, 10), 0);
      due.is("P35 drop", x.drop(0) + x.drop(1) * 100 + x.drop(2) * 1000 + x.drop(3) * 10000, 166500);
    }
  }

  /** An item becomes v, its lowest bits: 8, 16 or all; it is SHOWN, if these are not 0. */
  private static void lowestBits() {
    int[][] values = {
      {0, 0, 0, 0}, {1, 1, 1, 1}, {-1, 1, 1, 1}, {127, 1, 1, 1}, {128, 1, 1, 1}, {255, 1, 1, 1}, {256, 0, 1, 1}, {257, 1, 1, 1},
      {-256, 0, 1, 1}, {32767, 1, 1, 1}, {32768, 0, 1, 1}, {65280, 0, 1, 1}, {65535, 1, 1, 1}, {65536, 0, 0, 1}, {65537, 1, 1, 1},
      {65792, 0, 1, 1}, {-65536, 0, 0, 1}, {0x7FFF0000, 0, 0, 1}, {Integer.MAX_VALUE, 1, 1, 1}, {Integer.MIN_VALUE, 0, 0, 1},
    };
    for (int[] v : values) {
      for (int lane = 0; lane < 3; lane++) {
        SentRoads x = new SentRoads();
        x.deed(1, 1, 0, 0);
        x.sheet(0, lane, 6);
        due.is("P36 item " + v[0], x.item(0, lane, 3, v[0]), 1);
        x.shows(0, 0, lane, 0);
        due.is("P36 " + v[0] + " of LANE " + lane, x.shows(0, 0, lane, 0), v[lane + 1] * 8);
        x.item(0, lane, 3, 0);
        x.shows(0, 0, lane, 0);
        due.is("P36 0 again", x.shows(0, 0, lane, 0), 0);
      }
    }
  }

  private static void sentOften() {
    SentRoads x = Due.of("A:a1..4;B:a1..4;A>B*;B>A*");
    x.deed(1, 1, 3, 0);
    for (int i = 0; i < 400; i++) {
      if (x.send(i % 2) != 1) {
        due.is("P22 send " + i, 0, 1);
      }
    }
    due.is("P15 SENT 400 times", x.count(4), 400);
  }
}
