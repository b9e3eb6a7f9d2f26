/** Promises 27 to 36: demands, promises, mending, parting lands, images, sheets. */
public final class DemandsTest {
  private static final int LEAST = Integer.MIN_VALUE, GREATEST = Integer.MAX_VALUE;
  private static final Due due = new Due();

  public static void main(String[] args) {
    demand();
    ahead();
    aheadOfDeedsThatGo();
    promises();
    mended();
    mendedBound();
    part();
    image();
    sheet();
    drop();
    item();
    due.end();
  }

  private static void demand() {
    SentRoads x = new SentRoads();
    due.is("P27 no DEEDS yet", x.demand(0, 1, 0), SentRoads.BAD);
    x.deed(1, 1, 0, 0);
    x.deed(1, 1, 0, 0);
    int[][] wrong = {
      {-1, 1, 0}, {6, 1, 0}, {0, 0, 0}, {0, 4, 0}, {0, 7, 0}, {0, -1, 0}, {0, 256, 0}, {0, 1, -1}, {0, 1, 100},
      {LEAST, 1, 0}, {0, LEAST, 0}, {0, 1, GREATEST},
    };
    for (int[] w : wrong) {
      due.is("P27 " + java.util.Arrays.toString(w), x.demand(w[0], w[1], w[2]), SentRoads.BAD);
    }
    due.is("P27 count", x.count(3), 0);
    for (int i = 0; i < 8; i++) {
      due.is("P27 demand " + i, x.demand(i % 6, 1 + i % 3, i * 14), i);
    }
    due.is("P27 FULL", x.demand(0, 1, 0), SentRoads.FULL);
    due.is("P27 BAD ahead of FULL", x.demand(0, 4, 0), SentRoads.BAD);
    due.is("P27 count", x.count(3), 8);
  }

  private static void row(String what, SentRoads x, int... want) {
    for (int i = 0; i < want.length; i++) {
      due.is("P28 " + what + ": ahead(" + i + ")", x.ahead(i), want[i]);
    }
    due.is("P28 " + what + ": no more", x.ahead(want.length), SentRoads.NONE);
    due.is("P28 " + what + ": far off", x.ahead(GREATEST), SentRoads.NONE);
  }

  private static void ahead() {
    SentRoads x = Due.of("A:a1..4;B:a1..4;C:a1..9;D:a1..4;E:a1..4", "A>B*;A>C*;A>D*;A>E*o;F>E*");
    x.deed(1, 1, 3, 0);
    row("none", x);
    x.demand(1, 1, 50);
    x.demand(1, 1, 40);
    x.demand(4, 1, 0);
    x.demand(3, 1, 99);
    x.demand(2, 1, 98);
    x.demand(1, 1, 40);
    x.demand(0, 1, 0);
    row("YEARS, then its LAND, then the DAY, then the first", x, 4, 3, 1, 5, 0);
    x.bars(3, 0);
    row("E stands, too", x, 4, 3, 2, 1, 5, 0);
    x.man(1, 5);
    row("from where he sits", x);
    due.is("P28 -1", x.ahead(-1), SentRoads.BAD);
    due.is("P28 least", x.ahead(LEAST), SentRoads.BAD);
  }

  private static void aheadOfDeedsThatGo() {
    SentRoads x = Due.of("A:a1..4;A:b1..4;B:a1..20;B:b1..4;C:b1..5;C:a1..3", "A>B*p;A>C*;A>By4j");
    x.deed(33, 33, 1, 0);
    x.deed(2, 2, 4, 0);
    x.demand(1, 3, 0);
    x.demand(2, 3, 9);
    row("some other paper LETS it go", x, 0, 1);
    x.judged(0, true);
    row("only DEEDS that go count", x, 1, 0);
    x.judged(1, true);
    row("CUSTOM still", x, 1, 0);
  }

  private static void promises() {
    SentRoads x = Due.of("A:a1..4;B:a1..4;C:a1..4", "A>B*+DSO;A>B*j+SO;A>B*j+DO;A>B*o;C>B*;B>C*;A>C*+O;A>C*+S");
    x.deed(1, 1, 3, 0);
    x.deed(2, 1, 3, 0);
    due.is("P29 the fewest, then the least bits", x.promises(1, 0), 5);
    x.judged(0, true);
    due.is("P29 the only one", x.promises(1, 0), 7);
    x.bars(3, 0);
    due.is("P29 none PROMISED", x.promises(1, 0), 0);
    due.is("P29 one each", x.promises(2, 0), 2);
    due.is("P29 to where he sits", x.promises(0, 0), SentRoads.NONE);
    due.is("P29 that is not COVERED", x.promises(1, 1), SentRoads.NONE);
    int[][] wrong = {{-1, 0}, {6, 0}, {0, -1}, {0, 2}, {LEAST, 0}, {0, GREATEST}};
    for (int[] w : wrong) {
      due.is("P29 " + java.util.Arrays.toString(w), x.promises(w[0], w[1]), SentRoads.BAD);
      due.is("P30 " + java.util.Arrays.toString(w), x.mended(w[0], w[1]), SentRoads.BAD);
    }
  }

  private static void mended() {
    SentRoads x = Due.of("A:a1..4;B:a1..4;C:a1..4!;D:a1..4", "A>B*oph t5;B>C*k;A>C*ojphk;A>D*ph;D>B*");
    x.deed(33, 33, 0, 0);
    x.deed(2, 2, 0, 0);
    x.man(2, 50);
    due.is("P30 he sits there", x.mended(0, 0), 0);
    due.is("P30 to B: by D", x.mended(1, 0), 2);
    due.is("P30 to C: by D and B", x.mended(2, 0), 3);
    x.man(0, 3);
    due.is("P30 to C: not o", x.mended(2, 0), 3);
    x.bars(2, 4);
    due.is("P30 to C: one", x.mended(2, 0), 1);
    x.bars(0, 0);
    due.is("P30 AGE alone", x.mended(1, 0), 1);
    x.man(2, 5);
    due.is("P30 no bar", x.mended(1, 0), 0);
    due.is("P30 no CRIME", x.mended(1, 1), SentRoads.NONE);
    due.is("P30 no paper", x.mended(4, 0), SentRoads.NONE);
    x.judged(0, true);
    due.is("P30 JUDGED: he can't be TRIED", x.mended(1, 0), SentRoads.NONE);
    due.is("P30 JUDGED: where he sits", x.mended(0, 0), SentRoads.NONE);
  }

  private static void mendedBound() {
    SentRoads d = Due.of("A:a1..4;B:a1..4;C:a1..4!", "A>B*+D;B>C*k;B>C*oph+D");
    d.deed(33, 33, 1, 0);
    d.man(0, 1);
    due.is("P30 D binds: k may not fall", d.mended(2, 0), 3);
    d.man(1, 1);
    due.is("P30 D does not bind: k", d.mended(2, 0), 1);
    SentRoads o = Due.of("A:a1..4;B:a1..4;C:a1..4", "A>B*+O;B>C*;B>A*o;A>C*ph");
    o.deed(33, 33, 0, 0);
    due.is("P30 O binds", o.mended(2, 0), 2);
    o.send(0);
    o.man(0, 1);
    due.is("P30 O binds: back and on", o.mended(2, 0), 3);
    SentRoads s = Due.of("A:a1..4;B:a1..4;A:b1..4;B:b1..4", "A>B*p+S;B>A*");
    s.deed(1, 1, 4, 0);
    s.deed(34, 34, 4, 0);
    s.send(0);
    due.is("P30 S binds to another", s.mended(0, 1), SentRoads.NONE);
    due.is("P30 S binds to it", s.mended(0, 0), 0);
    due.is("P24 but there is a ROAD, SENT for the other", s.road(0, 1, -1), 1);
  }

  private static void part() {
    SentRoads x = Due.of("A:a1..4;B:a-b1..4;C:ab1..9;C:a-b1..2;D:f1..4");
    due.is("P31 the least", x.part(0, 1, 0), 3);
    due.is("P31 how many", x.part(0, 1, 1), 16);
    due.is("P31 the other way", x.part(1, 0, 1), 16);
    due.is("P31 nowhere", x.part(0, 2, 0), SentRoads.NONE);
    due.is("P31 at 0", x.part(0, 2, 1), 0);
    due.is("P31 at 32", x.part(3, 4, 0), 32);
    due.is("P31 at 32 of them", x.part(4, 3, 1), 32);
    due.is("P31 no CRIMES", x.part(4, 5, 0), SentRoads.NONE);
    int[][] wrong = {{-1, 0, 0}, {6, 0, 0}, {0, -1, 0}, {0, 6, 0}, {1, 1, 0}, {1, 1, 1}, {0, 1, -1}, {0, 1, 2}, {0, LEAST, 0}};
    for (int[] w : wrong) {
      due.is("P31 " + java.util.Arrays.toString(w), x.part(w[0], w[1], w[2]), SentRoads.BAD);
    }
    SentRoads all = Due.of("A:a1..4;A:b1..4;A:c1..4;A:d1..4;A:e1..4;A:f1..4");
    due.is("P31 all 63", all.part(0, 1, 1), 63);
    due.is("P31 from 1 on", all.part(0, 1, 0), 1);
  }

  private static SentRoads filled() {
    SentRoads x = Due.of("A:a1..4;B:a1..4;A>B*o+DSO;B>A*");
    x.named(0, 1, 2, 1, 7, 3);
    x.man(0, 3);
    x.deed(1, 1, 3, 9);
    x.man(2, 12);
    x.demand(0, 1, 5);
    x.send(0);
    x.deed(1, 1, 3, 9);
    x.judged(1, true);
    return x;
  }

  private static void tellsFilled(String when, SentRoads x) {
    int[] counts = {2, 2, 3, 1, 1};
    for (int what = 0; what < 5; what++) {
      due.is(when + " count(" + what + ")", x.count(what), counts[what]);
    }
    int[] bound = {1, 0, 1, 1};
    for (int what = 0; what < 4; what++) {
      due.is(when + " bound(" + what + ")", x.bound(what), bound[what]);
    }
    int[] named = {1, 0, 1, 1, 2, 1, 7, 3};
    for (int what = 0; what < 8; what++) {
      due.is(when + " paper(2, " + what + ")", x.paper(2, what), named[what]);
    }
    due.is(when + " lets(1)", x.lets(1), 1);
    due.is(when + " ahead(0)", x.ahead(0), 0);
    due.is(when + " yearsOf", x.yearsOf(0, 1, 1), 4);
    due.is(when + " matches", x.matches(0, 1, 0), 2);
    due.is(when + " tried", x.tried(), 1);
    due.is(when + " crimeOf(1, 4)", x.crimeOf(1, 4), 4);
  }

  private static void image() {
    SentRoads x = filled();
    tellsFilled("P32 ahead of it:", x);
    due.is("P33 no IMAGE", x.restore(), SentRoads.NONE);
    tellsFilled("P33 nothing changed:", x);
    due.is("P32 image", x.image(), 1);
    x.sheet(0, 0, 8);
    Due.type(x, "C:b1");
    tellsFilled("P32 nothing changed:", x);
    for (int round = 0; round < 2; round++) {
      x.bars(2, 31);
      x.send(1);
      x.send(0);
      x.judged(1, false);
      x.judged(0, true);
      x.man(0, 5);
      x.man(1, 4);
      x.man(2, 99);
      x.crime(1, 1, 0, 0, 40, true);
      x.deed(1, 1, 0, 0);
      x.custom(4, 5, 0, 0, 0);
      x.demand(1, 1, 0);
      x.shows(0, 0, 0, 0);
      due.is("P33 restore", x.restore(), 1);
      tellsFilled("P33 as it was then:", x);
      due.is("P33 OF", x.man(0, 3), 3);
      due.is("P33 THIS YEAR", x.man(2, 12), 12);
      due.is("P33 JUDGED", x.judged(1, true) * 10 + x.judged(0, false), 10);
    }
    due.is("P33 THE TAPE stays", x.type(0x2E2E32L, 3), 7);
    due.is("P33 SHEETS stay", x.drop(0), 8);
    due.is("P33 the TAPE's world", x.world(), 1);
    x.image();
    x.crime(0, 1, 0, 0, 1, false);
    x.restore();
    due.is("P32 the newer IMAGE", x.count(0), 3);
  }

  private static void sheet() {
    SentRoads x = new SentRoads();
    int[][] bad = {{-1, 0, 0}, {4, 0, 0}, {0, -1, 0}, {0, 3, 0}, {0, 0, 17}, {0, 0, GREATEST}, {4, 0, -1}, {0, 3, -1}, {LEAST, 0, 0}};
    for (int[] w : bad) {
      due.is("P34 " + java.util.Arrays.toString(w), x.sheet(w[0], w[1], w[2]), SentRoads.BAD);
    }
    due.is("P34 SIZE", x.sheet(0, 0, -1), SentRoads.SIZE);
    due.is("P34 SIZE least", x.sheet(0, 0, LEAST), SentRoads.SIZE);
    due.is("P34 still nothing", x.drop(0), SentRoads.NULL);
    due.is("P34 of 0", x.sheet(0, 0, 0), 0);
    due.is("P34 of 16", x.sheet(3, 2, 16), 16);
    x.item(3, 2, 0, 1);
    due.is("P34 SIZE leaves the old row", x.sheet(3, 1, -1), SentRoads.SIZE);
    due.is("P34 it is of its LANE", x.item(3, 2, 15, 1), 1);
    x.deed(1, 1, 0, 0);
    due.is("P34 a new row", x.sheet(3, 2, 6), 6);
    due.is("P34 shows it", x.shows(0, 3, 2, 0), 1);
    due.is("P34 is empty", x.shows(0, 3, 2, 0), 0);
  }

  private static void drop() {
    SentRoads x = new SentRoads();
    x.sheet(1, 1, 0);
    x.sheet(3, 1, 16);
    due.is("P35 of 0", x.drop(1), 0);
    due.is("P35 nothing", x.drop(1), SentRoads.NULL);
    due.is("P35 of 16", x.drop(3), 16);
    for (int wrong : new int[] {-1, 4, LEAST, GREATEST}) {
      due.is("P35 " + wrong, x.drop(wrong), SentRoads.BAD);
    }
  }

  private static int shown(SentRoads x, int lane, int v) {
    x.sheet(0, lane, 6);
    due.is("P36 item", x.item(0, lane, 5, v), 1);
    x.shows(0, 0, lane, 0);
    return x.shows(0, 0, lane, 0);
  }

  private static void item() {
    SentRoads x = new SentRoads();
    x.deed(1, 1, 0, 0);
    int[] values = {1, 0, -1, 255, 256, 65535, 65536, LEAST, 128, 32768};
    int[] bytes = {32, 0, 32, 32, 0, 32, 0, 0, 32, 0};
    int[] shorts = {32, 0, 32, 32, 32, 32, 0, 0, 32, 32};
    for (int i = 0; i < values.length; i++) {
      due.is("P36 a byte " + values[i], shown(x, 0, values[i]), bytes[i]);
      due.is("P36 a short " + values[i], shown(x, 1, values[i]), shorts[i]);
      due.is("P36 an int " + values[i], shown(x, 2, values[i]), values[i] == 0 ? 0 : 32);
    }
    due.is("P36 CAST", x.item(0, 1, 0, 1), SentRoads.CAST);
    due.is("P36 CAST ahead of INDEX", x.item(0, 1, 6, 1), SentRoads.CAST);
    due.is("P36 NULL", x.item(1, 2, 0, 1), SentRoads.NULL);
    due.is("P36 NULL ahead of INDEX", x.item(1, 2, -1, 1), SentRoads.NULL);
    for (int wrong : new int[] {-1, 6, 15, 16, LEAST, GREATEST}) {
      due.is("P36 INDEX " + wrong, x.item(0, 2, wrong, 1), SentRoads.INDEX);
    }
    int[][] bad = {{-1, 0}, {4, 0}, {0, -1}, {0, 3}, {1, 3}, {LEAST, 0}};
    for (int[] w : bad) {
      due.is("P36 " + java.util.Arrays.toString(w), x.item(w[0], w[1], -1, 1), SentRoads.BAD);
    }
  }
}
