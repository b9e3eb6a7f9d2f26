/** The sentences under "Terms" of the man, his roads, demands, promises and mending: each edge on its own. */
public final class ManTermsTest {
  private static final int NONE = SentRoads.NONE;
  private static final Due due = new Due();

  public static void main(String[] args) {
    letsByPaperAlone();
    letsWhereSBinds();
    letsWhereOBinds();
    letsWhereDBinds();
    sentForAllThatItLets();
    sentBindsAnew();
    onlySittingFrees();
    triedEachAlone();
    triedForOneYear();
    triedWhereDAndOBind();
    roadOfNone();
    roadIsTheShortest();
    roadIsTheFirstOfLikeOnes();
    roadThroughAllLands();
    roadByOnePaperTwice();
    roadOfTwentySeven();
    roadChangesNothing();
    safeAndHarbours();
    due.end();
  }

  private static void lets(String what, SentRoads x, int want) {
    due.is("T2 " + what, x.lets(0), want);
    due.is("T2 " + what + ": lands", x.lands(), want == 0 ? 1 : 3);
    due.is("T2 " + what + ": road", x.road(1, 0, -1), want == 0 || x.tried() == 0 ? NONE : 1);
    due.is("T2 " + what + ": send", x.send(0), want == 0 ? NONE : want);
  }

  private static SentRoads free(String paper) {
    SentRoads x = Due.of("A:a1..4;B:a1..4!", paper);
    x.man(0, 5);
    x.man(2, 20);
    x.deed(33, 33, 2, 10);
    return x;
  }

  /** It COVERS it, none of its BARS stands against it, its AGE does not. */
  private static void letsByPaperAlone() {
    lets("nothing against it", free("A>B*"), 1);
    lets("it does not COVER it", free("A>By5"), 0);
    lets("o", free("A>B*o"), 1);
    lets("p", free("A>B*p"), 0);
    lets("k", free("A>B*k"), 0);
    lets("k, D is PROMISED", free("A>B*k+D"), 1);
    lets("DEADLY, but k is no BAR, D does not bind", free("A>B*jh"), 1);
    lets("AGE 10", free("A>B*t10"), 1);
    lets("AGE 9", free("A>B*t9"), 0);
    SentRoads j = free("A>B*j");
    j.judged(0, true);
    lets("j", j, 0);
    SentRoads o = free("A>B*o");
    o.man(0, 0);
    lets("he is of A", o, 0);
    SentRoads h = free("A>B*h");
    lets("h, the DEED was in C", h, 1);
  }

  /** The DEED is one to which S binds him. DEED 1 alone has mark f, which bars it from the first paper. */
  private static SentRoads sentTo(int promised, String... papers) {
    SentRoads x = Due.of("A:a1..4;B:a1..4;C:a1..4!;D:a1..4");
    x.man(0, 5);
    x.deed(1, 1, 4, 0);
    x.deed(33, 33, 4, 0);
    x.custom(0, 1, 4, 0, promised);
    for (String p : papers) {
      Due.world(x, p);
    }
    due.is("T2 SENT", x.send(0), 1);
    return x;
  }

  private static void letsWhereSBinds() {
    SentRoads s = sentTo(2, "B>C*");
    due.is("T2 S binds to DEED 0", s.lets(1), 1);
    due.is("T2 a later DEED", s.deed(1, 1, 4, 0), 2);
    due.is("T2 S does not bind to it", s.lets(1), 1);
    due.is("P18 S", s.bound(2), 1);
    SentRoads all = sentTo(5, "B>C*+D;B>A*");
    due.is("T2 S binds to all", all.lets(2), 3);
    due.is("T2 a later DEED", all.deed(1, 1, 4, 0), 2);
    due.is("T2 S binds to it, too", all.lets(2), 7);
    due.is("P18 S", all.bound(2), 7);
  }

  private static void letsWhereOBinds() {
    SentRoads o = sentTo(4, "B>C*;B>D*;B>A*");
    due.is("P18 O to A", o.bound(1), 0);
    due.is("T2 not to C", o.lets(1), 0);
    due.is("T2 not to D", o.lets(2), 0);
    due.is("T2 to A", o.lets(3), 3);
    due.is("P22 not to C", o.send(1), NONE);
    due.is("P25 lands", o.lands(), 3);
    SentRoads free = sentTo(3, "B>C*+D;B>D*;B>A*");
    due.is("P18 O to none", free.bound(1), NONE);
    due.is("T2 to C", free.lets(1), 1);
    due.is("T2 to D", free.lets(2), 1);
    due.is("T2 to A", free.lets(3), 1);
  }

  /** If D binds him, D is PROMISED by it, or the DEED is not DEADLY in TO (C). */
  private static void letsWhereDBinds() {
    SentRoads d = sentTo(1, "B>C*;B>C*+D;B>C*+SO;B>D*;B>D*+D");
    due.is("T2 DEADLY, not PROMISED", d.lets(1), 0);
    due.is("T2 DEADLY, PROMISED", d.lets(2), 3);
    due.is("T2 DEADLY, S and O PROMISED", d.lets(3), 0);
    due.is("T2 not DEADLY, not PROMISED", d.lets(4), 3);
    due.is("T2 not DEADLY, PROMISED", d.lets(5), 3);
    d.bars(2, 4);
    due.is("P24 a ROAD by what D is PROMISED", d.road(2, 0, 0), 2);
    due.is("P25 C, too", d.lands(), 0b001110);
    due.is("P29 D is needed", d.promises(2, 0), 1);
    d.judged(1, true);
    d.bars(2, 31);
    d.man(0, 1);
    due.is("P24 no ROAD: D binds him", d.road(2, 0, -1), NONE);
    due.is("P25 not to C: D binds him", d.lands(), 0b001010);
    due.is("P29 none: D binds him", d.promises(2, 0), NONE);
    SentRoads free = sentTo(6, "B>C*;B>A*");
    due.is("T2 D does not bind, but O to A", free.lets(1), 0);
    SentRoads none = sentTo(0, "B>C*;B>C*k");
    due.is("T2 D does not bind: DEADLY, not PROMISED", none.lets(1), 3);
    due.is("T2 D does not bind: k", none.lets(2), 0);
  }

  /** SENT he is for all that it LETS. */
  private static void sentForAllThatItLets() {
    SentRoads x = Due.of("A:a1..4;B:a1..4;A>B*jp+S");
    int[] charged = {1, 33, 1, 2, 1, 3, 1, 1}, shown = {1, 33, 1, 2, 0, 3, 1, 3};
    for (int d = 0; d < 8; d++) {
      x.deed(charged[d], shown[d], 4, 0);
    }
    x.judged(2, true);
    due.is("P22 for which", x.send(0), 0b11100001);
    due.is("P18 S to these", x.bound(2), 0b11100001);
    x.judged(2, false);
    x.judged(0, true);
    due.is("P18 S to these, whatever comes", x.bound(2), 0b11100001);
    due.is("P23 TRIED for those not JUDGED", x.tried(), 0b11100000);
  }

  /** D binds him, if it is PROMISED; O to FROM; S to the DEEDS; what bound him ahead binds no more. */
  private static void sentBindsAnew() {
    for (int ahead = 0; ahead < 8; ahead++) {
      for (int then = 0; then < 8; then++) {
        SentRoads x = Due.of("A:a1..4;F:a1..4");
        x.deed(1, 1, 3, 0);
        x.deed(2, 2, 3, 0);
        x.custom(0, 5, 0, 0, ahead);
        x.custom(5, 0, 0, 0, then);
        x.send(0);
        binds("PROMISED " + ahead, x, ahead, 5, 0);
        due.is("T2 SENT back", x.send(1), 1);
        binds("PROMISED " + ahead + ", then " + then, x, then, 0, 5);
        x.man(1, 0);
        binds("then nothing", x, 0, 0, 5);
        due.is("P15 SENT twice", x.count(4), 2);
      }
    }
  }

  /** Only that he sits AT a LAND anew, be it the same one, frees him. */
  private static void onlySittingFrees() {
    SentRoads x = Due.of("A:a1..4;F:a1..4;A>F*+DSO");
    x.deed(1, 1, 3, 0);
    x.deed(2, 2, 3, 0);
    x.send(0);
    x.man(0, 5);
    x.man(2, 99);
    x.judged(0, true);
    x.bars(0, 31);
    x.man(1, 6);
    x.man(1, -1);
    x.man(3, 5);
    x.send(0);
    x.image();
    x.restore();
    binds("still", x, 7, 5, 0);
    due.is("P16 AT", x.man(1, 5), 5);
    binds("free", x, 0, 5, 0);
  }

  private static void binds(String what, SentRoads x, int promised, int at, int from) {
    due.is("T2 D: " + what, x.bound(0), promised & 1);
    due.is("T2 O: " + what, x.bound(1), (promised & 4) != 0 ? from : NONE);
    due.is("T2 S: " + what, x.bound(2), (promised & 2) != 0 ? 1 : 3);
    due.is("T2 AT: " + what, x.bound(3), at);
  }

  /** A CRIME there as CHARGED, not JUDGED, S binds him to it. */
  private static void triedEachAlone() {
    SentRoads x = Due.of("A:a1..4;B:b-c1..4;A:b1..4;A>B*+S;B:a1..4");
    x.deed(1, 0, 0, 0);
    x.deed(4, 1, 0, 0);
    x.deed(2, 2, 5, 99);
    x.deed(6, 6, 0, 0);
    due.is("P23 as CHARGED, not as SHOWN", x.tried(), 0b1101);
    x.judged(2, true);
    due.is("P23 not JUDGED", x.tried(), 0b1001);
    x.judged(2, false);
    due.is("P22 SENT", x.send(0), 0b0100);
    due.is("P23 where he sits, bound by S", x.tried(), 0b0100);
    x.man(1, 1);
    due.is("P23 bound by nothing", x.tried(), 0b0101);
    x.man(1, 2);
    due.is("P23 no CRIMES there", x.tried(), 0);
  }

  /** The least CRIME of all is one, too. */
  private static void triedForOneYear() {
    SentRoads x = Due.of("A:a0..1;B:a0..1;A>B*");
    x.deed(1, 1, 3, 0);
    due.is("P23 MOST 1", x.tried(), 1);
    due.is("P24 MOST 1", x.road(1, 0, -1), 1);
    due.is("P30 MOST 1", x.mended(1, 0), 0);
    due.is("P26 no HARBOURS there", x.safe(1), 0b111100);
  }

  /** D and O do not keep him from being TRIED, BARS and AGE neither, a DEADLY DEED is TRIED, too. */
  private static void triedWhereDAndOBind() {
    SentRoads x = Due.of("A:a1..4;B:a1..4;B:b1..4!;A>B*t99+DO");
    x.deed(1, 1, 1, 0);
    x.deed(34, 0, 1, 0);
    x.man(0, 1);
    x.send(0);
    x.man(2, 99);
    due.is("P23 TRIED for both", x.tried(), 3);
  }

  /** None, if he sits there: a ROAD of no papers, so that he may be TRIED there. */
  private static void roadOfNone() {
    SentRoads x = Due.of("A:a1..4;B:a1..4;A>B*;B>A*");
    x.deed(1, 1, 3, 0);
    x.deed(2, 1, 3, 0);
    due.is("P24 he sits there", x.road(0, 0, -1), 0);
    due.is("P24 it has no paper", x.road(0, 0, 0), NONE);
    due.is("P24 no CRIME there", x.road(0, 1, -1), NONE);
    due.is("P30 he sits there", x.mended(0, 0), 0);
    due.is("P30 no CRIME there", x.mended(0, 1), NONE);
    x.judged(0, true);
    due.is("P24 JUDGED", x.road(0, 0, -1), NONE);
    due.is("P30 JUDGED", x.mended(0, 0), NONE);
  }

  private static void isRoad(String what, SentRoads x, int land, int deed, int... papers) {
    due.is("P24 " + what + ": how many", x.road(land, deed, -1), papers.length);
    for (int i = 0; i < papers.length; i++) {
      due.is("P24 " + what + ": paper " + i, x.road(land, deed, i), papers[i]);
    }
    due.is("P24 " + what + ": no more", x.road(land, deed, papers.length), NONE);
  }

  private static void roadIsTheShortest() {
    SentRoads x = Due.of("A:a1..4;B:a1..4;C:a1..4;D:a1..4", "A>B*;B>C*;C>D*;B>D*;A>D*");
    x.deed(1, 1, 4, 0);
    isRoad("one, though its number is the last", x, 3, 0, 4);
    x.bars(4, 1);
    isRoad("two, of 0 and 3, not three", x, 3, 0, 0, 3);
    x.bars(3, 1);
    x.man(0, 0);
    isRoad("he is of A", x, 3, 0, 0, 3);
    x.man(0, 1);
    isRoad("he is of B: the last one", x, 3, 0, 4);
    x.bars(4, 16);
    x.bars(3, 1);
    x.deed(1, 1, 0, 0);
    isRoad("SENT for the other", x, 3, 1, 4);
    x.judged(0, true);
    x.bars(4, 2 + 16);
    isRoad("three", x, 3, 1, 0, 1, 2);
  }

  /** Of like ones the first: the first paper counts most. */
  private static void roadIsTheFirstOfLikeOnes() {
    SentRoads x = Due.of("A:a1..4;B:a1..4;C:a1..4;D:a1..4", "A>B*;A>C*;C>D*;A>C*;B>D*;B>D*");
    x.deed(1, 1, 4, 0);
    isRoad("0 and 4 ahead of 1 and 2", x, 3, 0, 0, 4);
    x.man(0, 1);
    x.bars(4, 1);
    isRoad("0 and 5", x, 3, 0, 0, 5);
    x.bars(5, 1);
    isRoad("1 and 2 ahead of 3 and 2", x, 3, 0, 1, 2);
    isRoad("one of two", x, 2, 0, 1);
    x.man(0, 0);
    x.bars(1, 1);
    isRoad("the other", x, 2, 0, 3);
    x.bars(4, 0);
    x.bars(3, 1);
    isRoad("by B alone", x, 3, 0, 0, 4);
  }

  private static void roadThroughAllLands() {
    SentRoads x = Due.of("A:a1..4;B:a1..4;C:a1..4;D:a1..4;E:a1..4;F:a1..4", "E>F*;D>E*;C>D*;B>C*;A>B*;F>A*");
    x.deed(1, 1, 4, 0);
    isRoad("five papers", x, 5, 0, 4, 3, 2, 1, 0);
    due.is("P25 all LANDS", x.lands(), 63);
    x.man(1, 5);
    isRoad("one", x, 0, 0, 5);
    isRoad("five", x, 4, 0, 5, 4, 3, 2, 1);
    due.is("P25 all LANDS", x.lands(), 63);
    due.is("P26 none is SAFE", x.safe(0), 0);
  }

  /** By A > B he is SENT for DEED 0 alone, as S binds him; back, and free, he is SENT by it for DEED 1, too. */
  private static void roadByOnePaperTwice() {
    SentRoads x = Due.of("A:a1..4;B:a1..4;C:a1..4;A>B*+S;B>A*;C>A*p+S");
    x.deed(1, 1, 4, 0);
    x.deed(33, 33, 4, 0);
    x.man(1, 2);
    due.is("P22 SENT to A for 0", x.send(2), 1);
    isRoad("for 0", x, 1, 0, 0);
    isRoad("for 1: there, back, and there again", x, 1, 1, 0, 1, 0);
    isRoad("for 1 in A: there and back", x, 0, 1, 0, 1);
  }

  /** Papers by which he is SENT again and again, until S binds him to DEED 2 in B. No road there is shorter. */
  private static void roadOfTwentySeven() {
    SentRoads x = Due.of("A:a0..9;A:f0..9!;A:e0..9;B:d0..9;B:e0..9!;B:f0..9!;C:a0..9!;C:d0..9!;C:d0..9",
        "D:f0..9!;D:c0..9!;D:d0..9!;E:a0..9;E:b0..9;E:a0..9;F:f0..9!;F:c0..9!;F:f0..9",
        "C>F*h;D>E*jh+S;C>E*j+DS;B>C*o+S;A>F*jh+S;E>F*ph+S;E>D*ojh+DS;F>C*ojh+DS;B>E*ojk+DO;A>B*oh+SO;E>B*oj+S;F>E*ojph+O");
    int[][] deeds = {{31, 0}, {34, 5}, {46, 0}, {38, 2}, {8, 1}, {14, 2}, {57, 2}, {49, 0}};
    for (int[] d : deeds) {
      x.deed(d[0], d[0], d[1], 0);
    }
    int[] road = {4, 7, 2, 6, 1, 10, 8, 10, 3, 2, 6, 1, 5, 11, 5, 7, 2, 6, 1, 10, 3, 0, 7, 2, 6, 1, 10};
    isRoad("27 papers", x, 1, 2, road);
    due.is("P24 none for DEED 1", x.road(1, 1, -1), NONE);
    for (int i = 0; i < road.length; i++) {
      due.is("P24 not TRIED on the way, step " + i, x.bound(3) == 1 ? x.tried() & 4 : 0, 0);
      due.is("P22 SENT, step " + i, x.send(road[i]) > 0 ? 1 : 0, 1);
      if (i < road.length - 1) {
        due.is("P24 so many are left", x.road(1, 2, -1), road.length - 1 - i);
      }
    }
    due.is("P23 TRIED in B for DEED 2", x.bound(3) * 100 + (x.tried() & 4), 104);
  }

  private static void roadChangesNothing() {
    SentRoads x = Fixture.rich();
    for (int land = 0; land < 6; land++) {
      x.road(land, 0, -1);
      x.road(land, 1, 0);
      x.mended(land, 0);
      x.promises(land, 2);
    }
    x.lands();
    x.safe(1);
    x.tried();
    x.ahead(0);
    due.is("P24 to P30: asking changes nothing", Probe.now(x).equals(Probe.now(Fixture.rich())) ? 1 : 0, 1);
  }

  /** SAFE: if he sat there bound by nothing, no paper would LET a DEED go. HARBOURS: nor may he be TRIED then. */
  private static void safeAndHarbours() {
    SentRoads x = Due.of("A:a1..4;B:a1..4;C:a1..4;D:f1..4", "A>B*p+DSO;B>C*o;C>A*t5;A>C*p+O");
    x.deed(1, 1, 3, 0);
    due.is("P26 SAFE", x.safe(0), 0b111000);
    due.is("P26 HARBOURS", x.safe(1), 0b111000);
    x.man(0, 1);
    due.is("P26 of B: B is SAFE", x.safe(0), 0b111010);
    due.is("P26 of B: B is no HARBOUR", x.safe(1), 0b111000);
    x.man(2, 5);
    due.is("P26 5 behind", x.safe(0), 0b111010);
    x.man(2, 6);
    due.is("P26 6 behind: C is SAFE", x.safe(0), 0b111110);
    due.is("P26 C is no HARBOUR", x.safe(1), 0b111000);
    x.deed(32, 32, 3, 6);
    due.is("P26 SAFE still", x.safe(0), 0b111110);
    due.is("P26 D is no HARBOUR", x.safe(1), 0b110000);
    x.judged(1, true);
    due.is("P26 JUDGED: D is one", x.safe(1), 0b111000);
    x.judged(0, true);
    due.is("P26 JUDGED: B, C are", x.safe(1), 0b111110);
    due.is("P26 A is not SAFE, as j is no BAR", x.safe(0), 0b111110);
    due.is("P22 SENT", x.send(0), 1);
    due.is("P26 as if bound by nothing", x.safe(0), 0b111110);
  }
}
