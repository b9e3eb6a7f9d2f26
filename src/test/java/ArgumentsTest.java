/**
 * Every argument of every call: the least and the greatest that it may be, those just outside, and far ones. Each
 * refused call is looked after: it has changed nothing. What the object holds is told at Fixture.rich.
 */
public final class ArgumentsTest {
  private static final int BAD = SentRoads.BAD, NOT = SentRoads.NOT, NONE = SentRoads.NONE, NULL = SentRoads.NULL;
  private static final int CAST = SentRoads.CAST, INDEX = SentRoads.INDEX, SIZE = SentRoads.SIZE;
  private static final int LEAST = Integer.MIN_VALUE, GREATEST = Integer.MAX_VALUE;
  private static final Due due = new Due();

  public static void main(String[] args) {
    crime();
    deed();
    years();
    named();
    custom();
    type();
    ofCrimesAndPapers();
    ofDeeds();
    shows();
    man();
    ofTheMan();
    road();
    demands();
    part();
    sheets();
    due.end();
  }

  private static Edges on(String name, Edges.Call call, int... fine) {
    return new Edges(due, name, Fixture::rich, call, fine);
  }

  private static void crime() {
    Edges.Call call = (x, a) -> x.crime(a[0], a[1], a[2], a[3], a[4], true);
    Edges e = on("P2 crime", call, 2, 5, 8, 3, 20).is(6, 2, 5, 8, 3, 20);
    e.range(0, 0, 5, 6, 6);
    e.range(3, 0, 20, 6, 6);
    e.range(4, 3, 40, 6, 6);
    on("P2 crime, MUST", call, 2, 5, 0, 3, 20).range(1, 1, 63, 6, 6);
    on("P2 crime, BUT", call, 2, 1, 8, 3, 20).range(2, 0, 62, 6, 6);
    on("P2 crime, LEAST 0", call, 2, 5, 8, 0, 20).range(4, 1, 40, 6, 6);
    on("P2 crime, MOST 40", call, 2, 5, 8, 0, 40).range(3, 0, 40, 6, 6);
    on("P2 crime, MOST 1", call, 2, 5, 8, 0, 1).range(3, 0, 1, 6, 6);
    for (int mark = 0; mark < 6; mark++) {
      on("P2 crime, a BUT of MUST", call, 0).refuses(BAD, 2, 63, 1 << mark, 3, 20).refuses(BAD, 2, 1 << mark, 63, 3, 20);
      on("P2 crime, all others BUT", call, 0).is(6, 2, 1 << mark, 63 - (1 << mark), 3, 20);
    }
    on("P2 crime without DEATH", (x, a) -> x.crime(2, 5, 8, 3, 20, false), 0).is(6);
  }

  private static void deed() {
    Edges e = on("P3 deed", (x, a) -> x.deed(a[0], a[1], a[2], a[3]), 5, 9, 2, 30).is(4, 5, 9, 2, 30);
    e.range(0, 1, 63, 4, 4);
    e.range(1, 0, 63, 4, 4);
    e.range(2, 0, 5, 4, 4);
    e.range(3, 0, 99, 4, 4);
  }

  private static void years() {
    Edges e = on("P4 years", (x, a) -> x.years(a[0], a[1], a[2], a[3], a[4], a[5]), 2, 4, 7, 9, 11, 5).is(5, 2, 4, 7, 9, 11, 5);
    e.range(0, 0, 5, 5, 5);
    e.range(1, 0, 5, 5, 5);
    e.range(2, 1, 40, 5, 5);
    e.range(3, 0, 31, 5, 5);
    e.range(4, 0, 99, 5, 5);
    e.range(5, 0, 7, 5, 5);
    for (int land = 0; land < 6; land++) {
      e.refuses(BAD, land, land, 7, 9, 11, 5);
    }
  }

  private static void named() {
    Edges e = on("P5 named", (x, a) -> x.named(a[0], a[1], a[2], a[3], a[4], a[5]), 0, 1, 4, 9, 11, 5).is(5, 0, 1, 4, 9, 11, 5);
    e.range(0, 0, 5, 5, 5);
    e.outside(1, 0, 5, BAD, BAD);
    e.range(3, 0, 31, 5, 5);
    e.range(4, 0, 99, 5, 5);
    e.range(5, 0, 7, 5, 5);
    e.at(2, 8, 5).at(2, 12, 5);
    e.refuses(BAD, 0, 1, 0, 9, 11, 5);
    for (int bit = 0; bit < 32; bit++) {
      if (bit != 2 && bit != 3) {
        e.refuses(BAD, 0, 1, 1 << bit, 9, 11, 5);
        e.refuses(BAD, 0, 1, 4 | 1 << bit, 9, 11, 5);
      }
    }
    e.refuses(BAD, 0, 1, -1, 9, 11, 5);
    e.refuses(BAD, 0, 1, GREATEST, 9, 11, 5);
    for (int land = 0; land < 6; land++) {
      if (land != 1) {
        e.refuses(BAD, 1, land, 4, 9, 11, 5);
      }
    }
    e.refuses(BAD, 1, 1, 4, 9, 11, 5);
    e.is(5, 1, 0, 1, 9, 11, 5).is(5, 0, 2, 48, 9, 11, 5);
  }

  private static void custom() {
    Edges e = on("P6 custom", (x, a) -> x.custom(a[0], a[1], a[2], a[3], a[4]), 2, 4, 9, 11, 5).is(5, 2, 4, 9, 11, 5);
    e.range(0, 0, 5, 5, 5);
    e.range(1, 0, 5, 5, 5);
    e.range(2, 0, 31, 5, 5);
    e.range(3, 0, 99, 5, 5);
    e.range(4, 0, 7, 5, 5);
    for (int land = 0; land < 6; land++) {
      e.refuses(BAD, land, land, 9, 11, 5);
    }
  }

  /** THE TAPE has 11 bytes. */
  private static void type() {
    on("P7 type, n", (x, a) -> x.type(0x4142434445464748L, a[0]), 4).range(0, 1, 8, 12, 19);
    for (int n = 1; n <= 8; n++) {
      for (int place = 0; place < 8; place++) {
        int shift = 8 * place, want = 11 + n, many = n;
        Edges e = on("P7 type, n " + n + ", byte " + place, (x, a) -> x.type(0x4141414141414141L & ~(255L << shift) | (long) a[0] << shift, many), 0);
        e.is(want, 32).is(want, 126);
        for (int b : new int[] {0, 1, 31, 127, 128, 160, 254, 255}) {
          if (place < n) {
            e.refuses(BAD, b);
          } else {
            e.is(want, b);
          }
        }
      }
    }
  }

  private static void ofCrimesAndPapers() {
    on("P9 crimeOf", (x, a) -> x.crimeOf(a[0], a[1]), 3, 4).is(12, 3, 4).range(0, 0, 5, 4, 6).range(1, 0, 5, 1, 1);
    on("P10 paper", (x, a) -> x.paper(a[0], a[1]), 1, 6).is(20, 1, 6).range(0, 0, 4, 0, 30).range(1, 0, 7, 2, 3);
    on("P11 bars", (x, a) -> x.bars(a[0], a[1]), 1, 5).is(24, 1, 5).range(0, 0, 4, 3, 2).range(1, 0, 31, 24, 24);
    on("P15 count", (x, a) -> x.count(a[0]), 2).is(5, 2).range(0, 0, 4, 6, 1);
    on("P19 covers", (x, a) -> x.covers(a[0]), 1).range(0, 0, 4, 15, 15);
  }

  private static void ofDeeds() {
    Edges matches = on("P12 matches", (x, a) -> x.matches(a[0], a[1], a[2]), 1, 1, 0).is(12, 1, 1, 0);
    matches.range(0, 0, 3, 4, 4).range(1, 0, 5, 3, 0).range(2, 0, 1, 12, 12);
    Edges years = on("P13 yearsOf", (x, a) -> x.yearsOf(a[0], a[1], a[2]), 1, 1, 0).is(12, 1, 1, 0);
    years.range(0, 0, 3, 5, 5).range(1, 0, 5, 9, 0).range(2, 0, 1, 12, 12);
    on("P17 judged", (x, a) -> x.judged(a[0], true), 1).is(1, 1).range(0, 0, 3, 0, 0);
    on("P17 not judged", (x, a) -> x.judged(a[0], false), 1).is(1, 1).range(0, 0, 3, 0, 0);
  }

  private static void shows() {
    Edges e = on("P14 shows", (x, a) -> x.shows(a[0], a[1], a[2], a[3]), 0, 2, 2, 4).is(1, 0, 2, 2, 4);
    e.range(0, 0, 3, 1, 5);
    e.range(1, 0, 3, CAST, NULL);
    e.range(2, 0, 2, CAST, 1);
    e.range(3, 0, 10, 1, 1, INDEX, INDEX);
    on("P14 shows, 6 items", (x, a) -> x.shows(0, 1, 1, a[0]), 0).range(0, 0, 0, 1, 1, INDEX, INDEX);
    on("P14 shows, 8 items", (x, a) -> x.shows(0, 0, 0, a[0]), 0).range(0, 0, 2, 1, 1, INDEX, INDEX);
  }

  private static void man() {
    on("P16 man, what", (x, a) -> x.man(a[0], a[1]), 0, 3).range(0, 0, 2, 4, 30);
    on("P16 man OF", (x, a) -> x.man(0, a[0]), 0).range(0, 0, 5, 4, 4);
    on("P16 man AT", (x, a) -> x.man(1, a[0]), 0).range(0, 0, 5, 1, 1);
    on("P16 man THIS YEAR", (x, a) -> x.man(2, a[0]), 0).range(0, 0, 99, 30, 30);
  }

  private static void ofTheMan() {
    on("P18 bound", (x, a) -> x.bound(a[0]), 0).is(NONE, 1).is(3, 2).range(0, 0, 3, 0, 1);
    on("P20 lets", (x, a) -> x.lets(a[0]), 1).is(3, 1).range(0, 0, 4, NOT, NOT);
    on("P21 barred", (x, a) -> x.barred(a[0], a[1]), 1, 1).range(0, 0, 4, 2, 2).range(1, 0, 3, 0, 16);
    on("P22 send", (x, a) -> x.send(a[0]), 1).is(3, 1).range(0, 0, 4, NOT, NOT);
    on("P26 safe", (x, a) -> x.safe(a[0]), 0).range(0, 0, 1, 56, 56);
  }

  private static void road() {
    Edges e = on("P24 road", (x, a) -> x.road(a[0], a[1], a[2]), 2, 0, -1).is(1, 2, 0, -1);
    e.range(0, 0, 5, 2, NONE);
    e.range(1, 0, 3, 1, NONE);
    e.range(2, -1, 0, 1, 1, BAD, NONE);
    on("P24 road of two", (x, a) -> x.road(0, 0, a[0]), 0).is(1, 0).range(0, -1, 1, 2, 2, BAD, NONE);
  }

  private static void demands() {
    Edges e = on("P27 demand", (x, a) -> x.demand(a[0], a[1], a[2]), 3, 9, 44).is(3, 3, 9, 44);
    e.range(0, 0, 5, 3, 3);
    e.range(1, 1, 15, 3, 3);
    e.range(2, 0, 99, 3, 3);
    for (int bit = 4; bit < 32; bit++) {
      e.refuses(BAD, 3, 1 << bit, 44).refuses(BAD, 3, 1 << bit | 1, 44);
    }
    on("P28 ahead", (x, a) -> x.ahead(a[0]), 0).range(0, 0, 0, 1, 1, BAD, NONE);
    Edges promises = on("P29 promises", (x, a) -> x.promises(a[0], a[1]), 2, 0).is(3, 2, 0);
    promises.range(0, 0, 5, NONE, NONE).range(1, 0, 3, 3, NONE);
    Edges mended = on("P30 mended", (x, a) -> x.mended(a[0], a[1]), 2, 0).is(0, 2, 0);
    mended.range(0, 0, 5, 0, NONE).range(1, 0, 3, 0, NONE);
  }

  private static void part() {
    Edges e = on("P31 part", (x, a) -> x.part(a[0], a[1], a[2]), 0, 1, 1).is(16, 0, 1, 1);
    e.outside(0, 0, 5, BAD, BAD).at(0, 5, 32);
    e.outside(1, 0, 5, BAD, BAD).at(1, 5, 48);
    e.range(2, 0, 1, 2, 16);
    for (int land = 0; land < 6; land++) {
      e.refuses(BAD, land, land, 0).refuses(BAD, land, land, 1);
    }
  }

  private static void sheets() {
    Edges sheet = on("P34 sheet", (x, a) -> x.sheet(a[0], a[1], a[2]), 3, 1, 5).is(5, 3, 1, 5);
    sheet.range(0, 0, 3, 5, 5).range(1, 0, 2, 5, 5).range(2, 0, 16, 0, 16, SIZE, BAD);
    on("P35 drop", (x, a) -> x.drop(a[0]), 2).is(16, 2).range(0, 0, 3, 8, NULL);
    Edges item = on("P36 item", (x, a) -> x.item(a[0], a[1], a[2], a[3]), 2, 2, 7, 9).is(1, 2, 2, 7, 9);
    item.range(0, 0, 3, CAST, NULL).range(1, 0, 2, CAST, 1).range(2, 0, 15, 1, 1, INDEX, INDEX);
    item.at(3, LEAST, 1).at(3, GREATEST, 1).at(3, 0, 1);
    on("P36 item, 6 items", (x, a) -> x.item(1, 1, a[0], 1), 0).range(0, 0, 5, 1, 1, INDEX, INDEX);
    on("P36 item, 8 items", (x, a) -> x.item(0, 0, a[0], 1), 0).range(0, 0, 7, 1, 1, INDEX, INDEX);
  }
}
