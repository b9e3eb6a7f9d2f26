/** Objects to ask and to spoil: one with something of everything, one in which nothing has room any more. */
final class Fixture {
  private Fixture() { }

  private static void has(SentRoads x, int... counts) {
    for (int what = 0; what < counts.length; what++) {
      if (x.count(what) != counts[what]) {
        throw new IllegalStateException("the fixture has " + x.count(what) + " of " + what + ", not " + counts[what]);
      }
    }
  }

  static SentRoads fresh() {
    return new SentRoads();
  }

  /**
   * 6 CRIMES, 4 DEEDS, 5 papers, 3 DEMANDS; he was SENT once, sits AT B, S binds him to DEEDS 0 and 1; SHEETS 0 to 2
   * hold rows of LANES 0 to 2, SHEET 3 nothing; THE TAPE has 11 bytes; the IMAGE is an older one.
   */
  static SentRoads rich() {
    SentRoads x = Due.of("A:a1..4;A:b0..9!;B:a1..5;B:ab-c2..12!;C:a1..3;C:f1..6!", "A>By4oj;B>C*kht20+DS;C>A*+O;A>B*+S");
    x.named(0, 1, 12, 2, 30, 5);
    x.deed(1, 1, 3, 10);
    x.deed(3, 3, 0, 40);
    x.deed(33, 1, 2, 5);
    x.demand(1, 3, 50);
    x.demand(2, 1, 20);
    x.man(0, 4);
    x.man(2, 25);
    x.image();
    x.man(2, 30);
    x.judged(1, true);
    x.send(3);
    x.deed(5, 5, 1, 60);
    x.bars(2, 16);
    x.demand(0, 9, 70);
    sheets(x);
    Due.type(x, "D:cd-e 3..1");
    has(x, 6, 4, 5, 3, 1);
    return x;
  }

  private static void sheets(SentRoads x) {
    int[] sizes = {8, 6, 16};
    for (int s = 0; s < 3; s++) {
      x.sheet(s, s, sizes[s]);
      for (int i = s; i < sizes[s]; i += 3) {
        x.item(s, s, i, 1 + i);
      }
    }
  }

  /** 24 CRIMES (of A, B by turns), 8 DEEDS, 12 papers, 8 DEMANDS, 120 bytes on THE TAPE, an IMAGE alike. */
  static SentRoads full() {
    SentRoads x = new SentRoads();
    for (int i = 0; i < 24; i++) {
      x.crime(i % 2, 1 + i, 0, i, 40 - i / 2, i % 5 == 0);
    }
    for (int i = 0; i < 8; i++) {
      x.deed(1 + i * 8, i * 9, i % 6, i * 14);
    }
    for (int i = 0; i < 12; i++) {
      x.years(i % 2, 1 - i % 2, 1 + i, i, i * 9, i % 8);
    }
    for (int i = 0; i < 8; i++) {
      x.demand(1 - i % 2, 1 << i, i * 14);
    }
    x.image();
    for (int i = 0; i < 15; i++) {
      x.type(0x2020202020202020L, 8);
    }
    has(x, 24, 8, 12, 8, 0);
    return x;
  }

  /** As far as `world` is told: 23 CRIMES and 11 papers, so that there is room for one of each. */
  static SentRoads nearlyFull() {
    SentRoads x = new SentRoads();
    for (int i = 0; i < 23; i++) {
      x.crime(i % 6, 1 + i, 0, i, 40, false);
    }
    for (int i = 0; i < 11; i++) {
      x.custom(i % 6, (i + 1) % 6, i, i, i % 8);
    }
    has(x, 23, 0, 11, 0, 0);
    return x;
  }
}
