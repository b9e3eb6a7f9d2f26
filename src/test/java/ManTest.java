/** Promises 16 to 26: the man, what lets him go, where he may be tried, and his roads. */
public final class ManTest {
  private static final int LEAST = Integer.MIN_VALUE, GREATEST = Integer.MAX_VALUE;
  private static final int[] OFF = {-1, 12, LEAST, GREATEST};
  private static final Due due = new Due();

  public static void main(String[] args) {
    man();
    judged();
    bound();
    covers();
    barred();
    lets();
    letsBound();
    send();
    tried();
    road();
    roadByPromises();
    roadBackToOwnLand();
    lands();
    safe();
    due.end();
  }

  private static void man() {
    SentRoads x = new SentRoads();
    due.is("P16 OF", x.man(0, 5), 0);
    due.is("P16 OF again", x.man(0, 0), 5);
    due.is("P16 AT", x.man(1, 4), 0);
    due.is("P16 AT again", x.man(1, 5), 4);
    due.is("P16 THIS YEAR", x.man(2, 99), 0);
    due.is("P16 THIS YEAR again", x.man(2, 0), 99);
    int[][] wrong = {{-1, 0}, {3, 0}, {0, -1}, {0, 6}, {1, -1}, {1, 6}, {2, -1}, {2, 100}, {LEAST, 0}, {1, GREATEST}};
    for (int[] w : wrong) {
      due.is("P16 " + java.util.Arrays.toString(w), x.man(w[0], w[1]), SentRoads.BAD);
    }
    due.is("P16 nothing changed", x.man(0, 0) * 1000 + x.man(1, 0) * 100 + x.man(2, 0), 500);
    SentRoads y = Due.of("A:a1..4;B:a1..4;A>B*+DSO");
    y.deed(1, 1, 0, 0);
    y.send(0);
    y.deed(1, 1, 0, 0);
    due.is("P16 bound", y.bound(0) * 100 + y.bound(1) * 10 + y.bound(2), 101);
    due.is("P16 AT the same", y.man(1, 1), 1);
    due.is("P16 bound by nothing: D", y.bound(0), 0);
    due.is("P16 bound by nothing: O", y.bound(1), SentRoads.NONE);
    due.is("P16 bound by nothing: S", y.bound(2), 3);
    due.is("P16 SENT still", y.count(4), 1);
  }

  private static void judged() {
    SentRoads x = new SentRoads();
    due.is("P17 no DEED", x.judged(0, true), SentRoads.BAD);
    x.deed(1, 1, 0, 0);
    due.is("P17 not at first", x.judged(0, false), 0);
    due.is("P17 not yet", x.judged(0, true), 0);
    due.is("P17 is", x.judged(0, true), 1);
    due.is("P17 was", x.judged(0, false), 1);
    for (int wrong : new int[] {-1, 1, 8, LEAST, GREATEST}) {
      due.is("P17 " + wrong, x.judged(wrong, true), SentRoads.BAD);
    }
    due.is("P17 nothing changed", x.judged(0, false), 0);
  }

  private static void bound() {
    SentRoads x = Due.of("A:a1..4;B:a1..4;A>B*+D;B>A*+S;A>B*+O;B>A*");
    due.is("P18 no DEEDS", x.bound(2), 0);
    x.deed(1, 1, 0, 0);
    x.deed(2, 2, 0, 0);
    due.is("P18 all of them", x.bound(2), 3);
    x.send(0);
    due.is("P18 D", x.bound(0), 1);
    due.is("P18 no O", x.bound(1), SentRoads.NONE);
    due.is("P18 no S", x.bound(2), 3);
    due.is("P18 AT", x.bound(3), 1);
    x.send(1);
    due.is("P18 D no more", x.bound(0), 0);
    due.is("P18 S", x.bound(2), 1);
    x.deed(1, 1, 0, 0);
    due.is("P18 S not to one that came later", x.bound(2), 1);
    x.send(2);
    due.is("P18 O to A", x.bound(1), 0);
    due.is("P18 S no more", x.bound(2), 7);
    x.deed(4, 4, 0, 0);
    due.is("P18 to all, those that come later, too", x.bound(2), 15);
    x.send(3);
    due.is("P18 O no more", x.bound(1), SentRoads.NONE);
    for (int wrong : new int[] {-1, 4, LEAST, GREATEST}) {
      due.is("P18 " + wrong, x.bound(wrong), SentRoads.BAD);
    }
  }

  private static void covers() {
    SentRoads x = Due.of("A:a1..4;A:b1..9;B:a1..4;B:ab1..9;B:c1..1;A>By4;A>By5;A>B*");
    x.named(0, 1, 8, 0, 0, 0);
    x.named(0, 1, 12, 0, 0, 0);
    x.deed(1, 1, 0, 0);
    x.deed(3, 3, 0, 0);
    x.deed(3, 2, 0, 0);
    x.deed(2, 2, 0, 0);
    x.deed(1, 0, 0, 0);
    x.deed(4, 1, 0, 0);
    x.deed(1, 3, 0, 0);
    due.is("P19 YEARS 4", x.covers(0), 0b1000111);
    due.is("P19 YEARS 5", x.covers(1), 0b0000110);
    due.is("P19 CUSTOM", x.covers(2), 0b1000011);
    due.is("P19 NAMED one", x.covers(3), 0b0000110);
    due.is("P19 NAMED two", x.covers(4), 0b1000111);
    x.man(1, 3);
    x.judged(1, true);
    x.bars(1, 31);
    due.is("P19 whatever bars, wherever he sits", x.covers(1), 0b0000110);
    for (int wrong : new int[] {-1, 5, LEAST, GREATEST}) {
      due.is("P19 " + wrong, x.covers(wrong), SentRoads.BAD);
    }
    SentRoads y = Due.of("A:a1..4;B:a1..4;A>B*");
    due.is("P19 no DEEDS", y.covers(0), 0);
  }

  private static void barred() {
    SentRoads x = Due.of("A:a1..4!;B:a1..4!;B:b1..4;A>B*ojpkh t5;A>B*ojpkh+D;A>B*;C>B*ojpkh t99");
    x.deed(33, 1, 0, 10);
    x.deed(2, 33, 1, 10);
    x.judged(0, true);
    x.man(2, 15);
    due.is("P21 all but AGE", x.barred(0, 0), 31);
    due.is("P21 he is of FROM alone", x.barred(0, 1), 1);
    due.is("P21 D is PROMISED", x.barred(1, 0), 23);
    due.is("P21 no BARS", x.barred(2, 0), 0);
    due.is("P21 another FROM", x.barred(3, 0), 14);
    x.man(2, 16);
    due.is("P21 AGE", x.barred(0, 0), 63);
    due.is("P21 AGE alone with o", x.barred(0, 1), 33);
    due.is("P21 no AGE", x.barred(1, 1), 1);
    x.man(0, 4);
    due.is("P21 of another LAND", x.barred(0, 0), 62);
    x.man(2, 0);
    due.is("P21 a DEED of a later YEAR", x.barred(0, 1), 0);
    x.man(2, 99);
    x.deed(1, 1, 2, 0);
    due.is("P21 99 is not more than 99", x.barred(3, 2), 24);
    x.bars(0, 2);
    due.is("P21 other BARS, AGE stays", x.barred(0, 0), 34);
    due.is("P21 paper 4", x.barred(4, 0), SentRoads.BAD);
    due.is("P21 deed 3", x.barred(0, 3), SentRoads.BAD);
    for (int wrong : OFF) {
      due.is("P21 paper " + wrong, x.barred(wrong, 0), SentRoads.BAD);
      due.is("P21 deed " + wrong, x.barred(0, wrong), SentRoads.BAD);
    }
  }

  private static void lets() {
    SentRoads x = Due.of("A:a1..4;B:a1..4!;A>B*ojpkh t5;B>A*;A>B*");
    x.man(0, 5);
    x.deed(1, 1, 1, 10);
    due.is("P20 barred by k", x.lets(0), 0);
    x.bars(0, 23);
    due.is("P20 free", x.lets(0), 1);
    x.man(2, 15);
    due.is("P20 AGE 5 behind", x.lets(0), 1);
    x.man(2, 16);
    due.is("P20 AGE 6 behind", x.lets(0), 0);
    x.man(2, 10);
    x.man(0, 0);
    due.is("P20 o", x.lets(0), 0);
    x.man(0, 1);
    x.judged(0, true);
    due.is("P20 j", x.lets(0), 0);
    x.judged(0, false);
    x.deed(33, 33, 1, 10);
    x.deed(1, 1, 0, 10);
    x.deed(1, 1, 3, 10);
    x.deed(2, 2, 3, 10);
    due.is("P20 p and h", x.lets(0), 0b01001);
    due.is("P20 all that it COVERS", x.lets(2), 0b01111);
    due.is("P20 NOT", x.lets(1), SentRoads.NOT);
    for (int wrong : new int[] {-1, 3, LEAST, GREATEST}) {
      due.is("P20 " + wrong, x.lets(wrong), SentRoads.BAD);
    }
  }

  private static void letsBound() {
    SentRoads x = Due.of("A:a1..4;B:a1..4;C:a1..4!;A:b1..4;C:b1..4;B:b1..4", "A>B*+D;B>C*;B>C*+D;B>A*;A>B*+O;A>B*p+S");
    x.deed(1, 1, 4, 0);
    x.deed(2, 2, 4, 0);
    x.deed(34, 34, 4, 0);
    x.send(0);
    due.is("P20 D binds: the DEADLY one stays", x.lets(1), 6);
    due.is("P20 D binds, and is PROMISED", x.lets(2), 7);
    due.is("P20 D binds, not DEADLY there", x.lets(3), 7);
    x.man(1, 0);
    x.send(4);
    due.is("P20 O binds: not on to C", x.lets(1), 0);
    due.is("P20 O binds: back to A", x.lets(3), 7);
    x.man(1, 0);
    due.is("P22 S", x.send(5), 3);
    due.is("P20 S binds", x.lets(1), 3);
    due.is("P20 S binds to that alone", x.lets(3), 3);
  }

  private static void send() {
    SentRoads x = Due.of("A:a1..4;B:a1..4;A>B*o;B>A*+DSO;A>B*");
    x.deed(1, 1, 3, 0);
    x.deed(2, 2, 3, 0);
    due.is("P22 NONE", x.send(0), SentRoads.NONE);
    due.is("P22 NOT", x.send(1), SentRoads.NOT);
    for (int wrong : new int[] {-1, 3, LEAST, GREATEST}) {
      due.is("P22 " + wrong, x.send(wrong), SentRoads.BAD);
    }
    due.is("P22 nothing changed", x.bound(3) + x.count(4), 0);
    due.is("P22 SENT", x.send(2), 1);
    due.is("P22 AT B", x.bound(3), 1);
    due.is("P22 count", x.count(4), 1);
    due.is("P22 SENT back", x.send(1), 1);
    due.is("P22 AT A", x.bound(3), 0);
    due.is("P22 D", x.bound(0), 1);
    due.is("P22 O to B", x.bound(1), 1);
    due.is("P22 S to 0", x.bound(2), 1);
    due.is("P22 to B he may go", x.send(2), 1);
    due.is("P22 what bound him binds no more", x.bound(0) * 100 + x.bound(2), 3);
    due.is("P22 no O", x.bound(1), SentRoads.NONE);
    due.is("P22 count", x.count(4), 3);
  }

  private static void tried() {
    SentRoads x = Due.of("A:a1..4;B:a1..4;B:b1..4;A>B*+S;A:c-d1..3");
    due.is("P23 no DEEDS", x.tried(), 0);
    x.deed(1, 0, 3, 0);
    x.deed(2, 2, 3, 0);
    x.deed(1, 1, 3, 0);
    x.deed(12, 4, 3, 0);
    x.deed(4, 12, 3, 0);
    due.is("P23 as CHARGED", x.tried(), 0b10101);
    x.judged(2, true);
    due.is("P23 not the JUDGED one", x.tried(), 0b10001);
    x.judged(2, false);
    x.send(0);
    due.is("P23 S", x.tried(), 0b00100);
    x.man(1, 1);
    due.is("P23 bound by nothing", x.tried(), 0b00111);
    x.man(1, 5);
    due.is("P23 no CRIME there", x.tried(), 0);
  }

  private static void road() {
    SentRoads x = Due.of("A:a1..4;B:a1..4;C:a1..4;D:a1..4", "A>C*;C>D*;A>B*;B>D*;A>D*o;B>D*");
    x.deed(1, 1, 4, 0);
    x.deed(2, 1, 4, 0);
    due.is("P24 he sits there", x.road(0, 0, -1), 0);
    due.is("P24 it has no papers", x.road(0, 0, 0), SentRoads.NONE);
    due.is("P24 two papers", x.road(3, 0, -1), 2);
    due.is("P24 the first of like ones", x.road(3, 0, 0), 0);
    due.is("P24 its second", x.road(3, 0, 1), 1);
    due.is("P24 no third", x.road(3, 0, 2), SentRoads.NONE);
    due.is("P24 no such", x.road(3, 0, GREATEST), SentRoads.NONE);
    x.bars(4, 0);
    due.is("P24 the shortest", x.road(3, 0, -1), 1);
    due.is("P24 it", x.road(3, 0, 0), 4);
    x.bars(4, 1);
    x.bars(0, 1);
    due.is("P24 another", x.road(3, 0, -1), 2);
    due.is("P24 its first", x.road(3, 0, 0), 2);
    due.is("P24 its second, the first of two", x.road(3, 0, 1), 3);
    due.is("P24 no such CRIME", x.road(3, 1, -1), SentRoads.NONE);
    due.is("P24 no CRIMES there", x.road(5, 0, -1), SentRoads.NONE);
    x.judged(0, true);
    due.is("P24 JUDGED", x.road(3, 0, -1), SentRoads.NONE);
    int[][] wrong = {{-1, 0, 0}, {6, 0, 0}, {0, -1, 0}, {0, 2, 0}, {0, 0, -2}, {0, 0, LEAST}, {LEAST, 0, 0}, {0, GREATEST, 0}};
    for (int[] w : wrong) {
      due.is("P24 " + java.util.Arrays.toString(w), x.road(w[0], w[1], w[2]), SentRoads.BAD);
    }
    due.is("P24 he was not SENT", x.count(4) + x.bound(3), 0);
  }

  private static void roadByPromises() {
    SentRoads o = Due.of("A:a1..4;B:a1..4;C:a1..4;D:a1..4", "A>B*+O;B>C*;A>D*;D>B*");
    o.deed(1, 1, 4, 0);
    due.is("P24 O keeps him from the short one", o.road(2, 0, -1), 3);
    due.is("P24 by D", o.road(2, 0, 0) * 100 + o.road(2, 0, 1) * 10 + o.road(2, 0, 2), 231);
    SentRoads s = Due.of("A:a1..4;B:ab1..4;B:a1..4;C:a1..4;C:b1..4;B:b1..4;A:b1..4", "A>B*p+S;B>C*+S;A>B*o");
    s.deed(1, 1, 4, 0);
    s.deed(34, 34, 4, 0);
    due.is("P24 S: for the one", s.road(2, 0, -1), 2);
    due.is("P24 S: not for the other", s.road(2, 1, -1), SentRoads.NONE);
    s.bars(0, 0);
    due.is("P24 S: SENT for both", s.road(2, 1, -1), 2);
    s.bars(0, 4);
    s.bars(2, 0);
    due.is("P24 S: by the paper without it", s.road(2, 1, 0) * 10 + s.road(2, 1, 1), 21);
    SentRoads last = Due.of("A:a1..4;B:a1..4;A:b1..4;B:b1..4;C:a1..4;C:b1..4", "A>B*p+S;B>C*");
    last.deed(1, 1, 4, 0);
    last.deed(34, 34, 4, 0);
    due.is("P24 S: SENT for one, by the last paper free for all", last.road(2, 1, -1), 2);
    SentRoads d = Due.of("A:a1..4;B:a1..4;C:a1..4!", "A>B*+D;B>C*;A>B*o;B>C*k");
    d.deed(1, 1, 4, 0);
    due.is("P24 D", d.road(2, 0, -1), SentRoads.NONE);
    d.bars(2, 0);
    due.is("P24 without D", d.road(2, 0, 0) * 10 + d.road(2, 0, 1), 21);
  }

  /** Bound by S to another DEED he may have to leave and come back to be TRIED. */
  private static void roadBackToOwnLand() {
    SentRoads x = Due.of("A:a1..4;B:a1..4;A:b1..4;B:b1..4;A>B*p+S;B>A*;A>B*");
    x.deed(1, 1, 4, 0);
    x.deed(34, 34, 4, 0);
    x.send(0);
    due.is("P24 bound to 0", x.bound(2), 1);
    due.is("P24 for 0 he may be TRIED", x.road(1, 0, -1), 0);
    due.is("P24 for 1 he must come back", x.road(1, 1, -1), 2);
    due.is("P24 there and back", x.road(1, 1, 0) * 10 + x.road(1, 1, 1), 12);
  }

  private static void lands() {
    SentRoads x = Due.of("A:a1..4;B:a1..4;C:a1..4;D:a1..4!;E:b1..4", "A>B*+O;B>C*;C>A*;A>D*k;A>E*;F>A*");
    due.is("P25 no DEEDS", x.lands(), 1);
    x.deed(1, 1, 4, 0);
    due.is("P25 O", x.lands(), 0b000011);
    x.man(1, 1);
    due.is("P25 from B", x.lands(), 0b000111);
    x.bars(3, 0);
    due.is("P25 D, too", x.lands(), 0b001111);
    x.man(1, 5);
    due.is("P25 F has no CRIME", x.lands(), 0b100000);
    x.man(1, 4);
    x.man(0, 2);
    due.is("P25 where he sits", x.lands(), 0b010000);
    due.is("P25 he was not SENT", x.count(4), 0);
  }

  private static void safe() {
    SentRoads x = Due.of("A:a1..4;B:a1..4;C:a1..4;D:b1..4", "A>B*+S;B>A*o;C>A*p;D>A*");
    due.is("P26 no DEEDS", x.safe(0), 63);
    due.is("P26 no DEEDS: harbours", x.safe(1), 63);
    x.deed(1, 1, 4, 0);
    due.is("P26 SAFE", x.safe(0), 0b111000);
    due.is("P26 HARBOURS", x.safe(1), 0b111000);
    x.man(0, 1);
    due.is("P26 of B: SAFE", x.safe(0), 0b111010);
    due.is("P26 of B: HARBOURS", x.safe(1), 0b111000);
    x.judged(0, true);
    due.is("P26 JUDGED: HARBOURS", x.safe(1), 0b111010);
    x.judged(0, false);
    x.send(0);
    x.deed(2, 2, 4, 0);
    due.is("P26 as if bound by nothing", x.safe(1), 0b110000);
    x.bars(0, 31);
    due.is("P26 bars do not stand", x.safe(0), 0b111010);
    for (int wrong : new int[] {-1, 2, LEAST, GREATEST}) {
      due.is("P26 " + wrong, x.safe(wrong), SentRoads.BAD);
    }
    due.is("P26 he sits where he sat", x.bound(3), 1);
    due.is("P26 bound as he was", x.bound(2), 1);
  }
}
