import java.util.List;
import java.util.function.Consumer;
import java.util.function.Supplier;

/**
 * "Refusals are answers, of several the first that a call names", "NULL, CAST, INDEX, SIZE in this order, behind BAD",
 * "What is refused changes nothing": each refusal that a call names, alone and together with each later one.
 */
public final class RefusalsTest {
  private static final int BAD = SentRoads.BAD, NOT = SentRoads.NOT, FULL = SentRoads.FULL, NONE = SentRoads.NONE;
  private static final int NULL = SentRoads.NULL, CAST = SentRoads.CAST, INDEX = SentRoads.INDEX, SIZE = SentRoads.SIZE;
  private static final Due due = new Due();

  public static void main(String[] args) {
    probeSees();
    fullCrimesAndDeeds();
    fullPapers();
    fullTape();
    world();
    fullDemands();
    paperOfAnotherKind();
    shows();
    item();
    sheet();
    drop();
    letsAndSend();
    road();
    ahead();
    promisesAndMended();
    part();
    restore();
    due.end();
  }

  private static Edges on(Supplier<SentRoads> maker, String name, Edges.Call call) {
    return new Edges(due, name, maker, call);
  }

  private static void sees(String what, Consumer<SentRoads> change) {
    SentRoads x = Fixture.rich();
    change.accept(x);
    due.is("the probe sees " + what, Probe.now(x).equals(Probe.now(Fixture.rich())) ? 0 : 1, 1);
  }

  /** That a refused call changed nothing says something only if the probe sees what a call can change. */
  private static void probeSees() {
    sees("a CRIME", x -> x.crime(0, 1, 0, 0, 1, false));
    sees("a DEED", x -> x.deed(1, 0, 0, 0));
    sees("a paper", x -> x.custom(0, 1, 0, 0, 0));
    sees("THE TAPE", x -> x.type(0x20, 1));
    sees("a TAPE with another number", x -> { x.world(); Due.type(x, "D:cd-e 3..2"); });
    sees("an empty TAPE", SentRoads::world);
    sees("BARS", x -> x.bars(4, 3));
    sees("what is SHOWN", x -> x.shows(3, 2, 2, 0));
    sees("OF", x -> x.man(0, 3));
    sees("AT", x -> x.man(1, 5));
    sees("S", x -> x.man(1, 1));
    sees("THIS YEAR", x -> x.man(2, 31));
    sees("JUDGED", x -> x.judged(3, true));
    sees("SENT", x -> x.send(1));
    sees("a DEMAND", x -> x.demand(2, 1, 0));
    sees("a restored IMAGE", SentRoads::restore);
    sees("a SHEET", x -> x.sheet(3, 0, 0));
    sees("another LANE", x -> x.sheet(1, 0, 6));
    sees("a dropped SHEET", x -> x.drop(1));
    sees("an item", x -> x.item(2, 2, 15, 1));
    SentRoads x = Fixture.rich();
    x.image();
    due.is("the probe sees an IMAGE", Probe.kept(x).equals(Probe.kept(Fixture.rich())) ? 0 : 1, 1);
  }

  private static void fullCrimesAndDeeds() {
    Edges crime = on(Fixture::full, "P2 crime, 24 are there", (x, a) -> x.crime(a[0], a[1], a[2], a[3], a[4], false));
    crime.refuses(FULL, 0, 1, 0, 0, 1).refuses(FULL, 5, 63, 0, 40, 40);
    crime.refuses(BAD, -1, 1, 0, 0, 1).refuses(BAD, 6, 1, 0, 0, 1).refuses(BAD, 0, 0, 0, 0, 1).refuses(BAD, 0, 64, 0, 0, 1);
    crime.refuses(BAD, 0, 1, -1, 0, 1).refuses(BAD, 0, 1, 64, 0, 1).refuses(BAD, 0, 1, 1, 0, 1);
    crime.refuses(BAD, 0, 1, 0, -1, 1).refuses(BAD, 0, 1, 0, 2, 1).refuses(BAD, 0, 1, 0, 0, 0).refuses(BAD, 0, 1, 0, 0, 41);
    Edges deed = on(Fixture::full, "P3 deed, 8 are there", (x, a) -> x.deed(a[0], a[1], a[2], a[3]));
    deed.refuses(FULL, 1, 0, 0, 0).refuses(FULL, 63, 63, 5, 99);
    deed.refuses(BAD, 0, 0, 0, 0).refuses(BAD, 64, 0, 0, 0).refuses(BAD, 1, -1, 0, 0).refuses(BAD, 1, 64, 0, 0);
    deed.refuses(BAD, 1, 0, -1, 0).refuses(BAD, 1, 0, 6, 0).refuses(BAD, 1, 0, 0, -1).refuses(BAD, 1, 0, 0, 100);
  }

  /** CRIME 1 is of B. */
  private static void fullPapers() {
    Edges years = on(Fixture::full, "P4 years, 12 are there", (x, a) -> x.years(a[0], a[1], a[2], a[3], a[4], a[5]));
    Edges named = on(Fixture::full, "P5 named, 12 are there", (x, a) -> x.named(a[0], a[1], a[2], a[3], a[4], a[5]));
    Edges custom = on(Fixture::full, "P6 custom, 12 are there", (x, a) -> x.custom(a[0], a[1], a[3], a[4], a[5]));
    for (Edges e : List.of(years, named, custom)) {
      e.refuses(FULL, 0, 1, 2, 0, 0, 0).refuses(FULL, 5, 1, 2, 31, 99, 7);
      e.refuses(BAD, -1, 1, 2, 0, 0, 0).refuses(BAD, 6, 1, 2, 0, 0, 0).refuses(BAD, 0, -1, 2, 0, 0, 0).refuses(BAD, 0, 6, 2, 0, 0, 0);
      e.refuses(BAD, 1, 1, 2, 0, 0, 0).refuses(BAD, 0, 1, 2, -1, 0, 0).refuses(BAD, 0, 1, 2, 32, 0, 0);
      e.refuses(BAD, 0, 1, 2, 0, -1, 0).refuses(BAD, 0, 1, 2, 0, 100, 0).refuses(BAD, 0, 1, 2, 0, 0, -1).refuses(BAD, 0, 1, 2, 0, 0, 8);
    }
    years.refuses(BAD, 0, 1, 0, 0, 0, 0).refuses(BAD, 0, 1, 41, 0, 0, 0);
    named.refuses(BAD, 0, 1, 0, 0, 0, 0).refuses(BAD, 0, 1, 1, 0, 0, 0).refuses(BAD, 0, 1, 3, 0, 0, 0).refuses(BAD, 0, 1, 1 << 24, 0, 0, 0);
  }

  private static SentRoads tapeOf(int bytes) {
    SentRoads x = Fixture.rich();
    x.world();
    for (int i = 0; i < bytes; i++) {
      x.type(0x20, 1);
    }
    return x;
  }

  private static void fullTape() {
    for (int n = 1; n <= 8; n++) {
      int many = n;
      Edges just = on(() -> tapeOf(120 - many), "P7 type, just room for " + n, (x, a) -> x.type(0x4141414141414141L, a[0]));
      just.is(120, n);
      for (int more = n + 1; more <= 8; more++) {
        just.refuses(FULL, more);
      }
    }
    Edges full = on(() -> tapeOf(120), "P7 type, 120 are there", (x, a) -> x.type(0x1F41414141414141L, a[0]));
    full.refuses(FULL, 1).refuses(FULL, 7).refuses(BAD, 8).refuses(BAD, 0).refuses(BAD, 9).refuses(BAD, -1);
    Edges wrong = on(() -> tapeOf(113), "P7 type, room for 7", (x, a) -> x.type(0x417F414141414141L, a[0]));
    wrong.refuses(BAD, 8).refuses(BAD, 7).is(119, 6);
  }

  /** THE TAPE is empty behind a refused `world`, too; nothing else may change. */
  private static void refusedWorld(String text, Supplier<SentRoads> maker, int want) {
    SentRoads x = maker.get();
    due.is("P8 world of '" + text + "'", Due.world(x, text), want);
    due.is("P8 world of '" + text + "' changed something", Probe.now(x).equals(Probe.now(maker.get())) ? 0 : 1, 0);
  }

  private static void world() {
    refusedWorld("A:a1..4;A:a1..4", Fixture::nearlyFull, FULL);
    refusedWorld("A>B*;A>B*", Fixture::nearlyFull, FULL);
    refusedWorld("A:a1..4;A>B*;A:a1..4", Fixture::nearlyFull, FULL);
    refusedWorld("A>B*;A:a1..4;A>B*", Fixture::nearlyFull, FULL);
    refusedWorld("A:a1..4;A:a1..4;A>B*;A>B*", Fixture::nearlyFull, FULL);
    refusedWorld("A:a1..4;A:a1..0", Fixture::nearlyFull, -34);
    refusedWorld("A>B*;A>B*;", Fixture::nearlyFull, -30);
    refusedWorld("A:a1..4;A>B*;A>B*;x", Fixture::nearlyFull, -38);
    refusedWorld("A:a1..4;A>A*", Fixture::nearlyFull, -30);
    refusedWorld("", Fixture::nearlyFull, -20);
    SentRoads x = Fixture.nearlyFull();
    due.is("P8 one of each has room", Due.world(x, "A>B*;A:a1..4"), 2);
    due.is("P8 24 CRIMES, 12 papers", x.count(0) * 100 + x.count(2), 2412);
  }

  private static void fullDemands() {
    Edges e = on(Fixture::full, "P27 demand, 8 are there", (x, a) -> x.demand(a[0], a[1], a[2]));
    e.refuses(FULL, 0, 1, 0).refuses(FULL, 5, 255, 99);
    e.refuses(BAD, -1, 1, 0).refuses(BAD, 6, 1, 0).refuses(BAD, 0, 0, 0).refuses(BAD, 0, 256, 0).refuses(BAD, 0, 257, 0);
    e.refuses(BAD, 0, -1, 0).refuses(BAD, 0, 1, -1).refuses(BAD, 0, 1, 100);
  }

  /** Papers: 0 YEARS, 1 CUSTOM, 4 NAMED. */
  private static void paperOfAnotherKind() {
    Edges e = on(Fixture::rich, "P10 paper", (x, a) -> x.paper(a[0], a[1]));
    e.is(4, 0, 3).refuses(CAST, 0, 4);
    e.refuses(CAST, 1, 3).refuses(CAST, 1, 4);
    e.is(1, 4, 3).is(12, 4, 4);
    e.refuses(BAD, 5, 3).refuses(BAD, 5, 4).refuses(BAD, -1, 3).refuses(BAD, -1, 4);
    e.refuses(BAD, 1, 8).refuses(BAD, 1, -1);
  }

  /** SHEETS: 0 8 bytes, 1 6 shorts, 2 16 ints, 3 nothing. */
  private static void shows() {
    Edges e = on(Fixture::rich, "P14 shows", (x, a) -> x.shows(a[0], a[1], a[2], a[3]));
    for (int lane = 0; lane < 3; lane++) {
      e.refuses(NULL, 0, 3, lane, 0).refuses(NULL, 0, 3, lane, -1).refuses(NULL, 0, 3, lane, 11);
      for (int sheet = 0; sheet < 3; sheet++) {
        int want = sheet == lane ? INDEX : CAST;
        e.refuses(want, 0, sheet, lane, -1).refuses(want, 0, sheet, lane, 11).refuses(want, 0, sheet, lane, Integer.MAX_VALUE);
      }
    }
    e.refuses(CAST, 0, 0, 1, 0).refuses(CAST, 0, 1, 2, 0).refuses(CAST, 0, 2, 0, 0);
    for (int sheet = 0; sheet < 4; sheet++) {
      e.refuses(BAD, -1, sheet, 1, 0).refuses(BAD, 4, sheet, 1, 0).refuses(BAD, 4, sheet, 1, -1).refuses(BAD, 4, sheet, 1, 11);
      e.refuses(BAD, 0, sheet, -1, 0).refuses(BAD, 0, sheet, 3, 0).refuses(BAD, 0, sheet, 3, -1).refuses(BAD, 0, sheet, 3, 11);
    }
    e.refuses(BAD, 0, -1, 0, -1).refuses(BAD, 0, 4, 0, 11);
  }

  private static void item() {
    Edges e = on(Fixture::rich, "P36 item", (x, a) -> x.item(a[0], a[1], a[2], 1));
    for (int lane = 0; lane < 3; lane++) {
      e.refuses(NULL, 3, lane, 0).refuses(NULL, 3, lane, -1).refuses(NULL, 3, lane, 16);
      for (int sheet = 0; sheet < 3; sheet++) {
        int want = sheet == lane ? INDEX : CAST;
        e.refuses(want, sheet, lane, -1).refuses(want, sheet, lane, 16).refuses(want, sheet, lane, Integer.MIN_VALUE);
      }
    }
    e.refuses(CAST, 0, 1, 0).refuses(CAST, 1, 2, 0).refuses(CAST, 2, 0, 0);
    for (int sheet = 0; sheet < 4; sheet++) {
      e.refuses(BAD, sheet, -1, 0).refuses(BAD, sheet, 3, 0).refuses(BAD, sheet, 3, -1).refuses(BAD, sheet, -1, 16);
    }
    e.refuses(BAD, -1, 0, 0).refuses(BAD, 4, 0, 0).refuses(BAD, -1, 0, -1).refuses(BAD, 4, 0, 16);
    SentRoads x = new SentRoads();
    x.sheet(0, 0, 0);
    due.is("P36 item of a row of 0", x.item(0, 0, 0, 1), INDEX);
    due.is("P36 item of a row of 0, another LANE", x.item(0, 1, 0, 1), CAST);
  }

  private static void sheet() {
    Edges e = on(Fixture::rich, "P34 sheet", (x, a) -> x.sheet(a[0], a[1], a[2]));
    e.refuses(SIZE, 0, 0, -1).refuses(SIZE, 3, 2, -16).refuses(SIZE, 3, 2, Integer.MIN_VALUE);
    e.refuses(BAD, 0, 0, 17).refuses(BAD, 3, 2, Integer.MAX_VALUE);
    e.refuses(BAD, -1, 0, -1).refuses(BAD, 4, 0, -1).refuses(BAD, 0, -1, -1).refuses(BAD, 0, 3, -1).refuses(BAD, 4, 3, 17);
  }

  private static void drop() {
    Edges e = on(Fixture::rich, "P35 drop", (x, a) -> x.drop(a[0]));
    e.refuses(NULL, 3).refuses(BAD, 4).refuses(BAD, -1);
    SentRoads x = Fixture.rich();
    due.is("P35 drop(2)", x.drop(2), 16);
    due.is("P35 drop(2) again", x.drop(2), NULL);
    due.is("P36 item of what was dropped", x.item(2, 2, 0, 1), NULL);
    due.is("P14 shows of what was dropped", x.shows(0, 2, 2, 0), NULL);
    due.is("P34 a row again", x.sheet(2, 0, 1), 1);
    due.is("P35 drop(2)", x.drop(2), 1);
  }

  /** Papers: 0 from where he sits, LETS none go; 1 from elsewhere, would LET some go; 2 from elsewhere, none. */
  private static SentRoads stuck() {
    SentRoads x = Due.of("A:a1..4;B:a1..4;C:a1..4;A>B*j;B>C*;C>B*j");
    x.deed(1, 1, 4, 0);
    x.deed(2, 2, 0, 0);
    x.judged(0, true);
    return x;
  }

  private static void letsAndSend() {
    on(RefusalsTest::stuck, "P20 lets", (x, a) -> x.lets(a[0])).is(0, 0).refuses(NOT, 1).refuses(NOT, 2).refuses(BAD, 3).refuses(BAD, -1);
    Edges send = on(RefusalsTest::stuck, "P22 send", (x, a) -> x.send(a[0]));
    send.refuses(NONE, 0).refuses(NOT, 1).refuses(NOT, 2).refuses(BAD, 3).refuses(BAD, -1);
    SentRoads x = Due.of("A>B*;B>A*");
    due.is("P20 no DEEDS: lets(0)", x.lets(0), 0);
    due.is("P20 no DEEDS: lets(1)", x.lets(1), NOT);
    due.is("P22 no DEEDS: send(0)", x.send(0), NONE);
    due.is("P22 no DEEDS: send(1)", x.send(1), NOT);
    due.is("P22 he was never SENT", x.count(4) + x.bound(3), 0);
  }

  private static void road() {
    Edges e = on(RefusalsTest::stuck, "P24 road", (x, a) -> x.road(a[0], a[1], a[2]));
    e.refuses(NONE, 1, 0, -1).refuses(NONE, 1, 0, 0).refuses(NONE, 5, 1, -1).refuses(NONE, 0, 0, -1);
    e.refuses(BAD, 1, 0, -2).refuses(BAD, 6, 0, -1).refuses(BAD, 1, 2, -1).refuses(BAD, -1, -1, -2).refuses(BAD, 1, 0, Integer.MIN_VALUE);
    SentRoads x = stuck();
    x.judged(0, false);
    due.is("P24 one paper", x.road(1, 0, -1), 1);
    due.is("P24 it", x.road(1, 0, 0), 0);
    due.is("P24 it has no such", x.road(1, 0, 1), NONE);
    due.is("P24 none: he sits there", x.road(0, 0, -1), 0);
    due.is("P24 none: it has no such", x.road(0, 0, 0), NONE);
  }

  private static void ahead() {
    Edges e = on(Fixture::rich, "P28 ahead", (x, a) -> x.ahead(a[0]));
    e.refuses(NONE, 1).refuses(NONE, 3).refuses(NONE, 8).refuses(BAD, -1);
    Edges none = on(RefusalsTest::stuck, "P28 ahead, no DEMAND", (x, a) -> x.ahead(a[0]));
    none.refuses(NONE, 0).refuses(NONE, Integer.MAX_VALUE).refuses(BAD, -1).refuses(BAD, Integer.MIN_VALUE);
  }

  private static void promisesAndMended() {
    Edges promises = on(RefusalsTest::stuck, "P29 promises", (x, a) -> x.promises(a[0], a[1]));
    Edges mended = on(RefusalsTest::stuck, "P30 mended", (x, a) -> x.mended(a[0], a[1]));
    for (Edges e : List.of(promises, mended)) {
      e.refuses(NONE, 1, 0).refuses(NONE, 0, 0).refuses(NONE, 5, 1);
      e.refuses(BAD, 6, 0).refuses(BAD, -1, 0).refuses(BAD, 5, 2).refuses(BAD, 5, -1).refuses(BAD, 6, 2);
    }
  }

  private static void part() {
    Edges e = on(RefusalsTest::stuck, "P31 part", (x, a) -> x.part(a[0], a[1], a[2]));
    e.refuses(NONE, 0, 1, 0).is(0, 0, 1, 1).refuses(NONE, 4, 5, 0).is(0, 4, 5, 1);
    e.refuses(BAD, 0, 0, 0).refuses(BAD, 5, 5, 0).refuses(BAD, 0, 6, 0).refuses(BAD, -1, 0, 0).refuses(BAD, 0, 1, 2).refuses(BAD, 0, 1, -1);
  }

  private static void restore() {
    on(RefusalsTest::stuck, "P33 restore, no IMAGE", (x, a) -> x.restore()).refuses(NONE);
    SentRoads x = stuck();
    x.image();
    due.is("P33 restore", x.restore() * 10 + x.restore(), 11);
  }
}
