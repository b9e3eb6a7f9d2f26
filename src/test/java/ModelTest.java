import java.util.Random;

/** Runs of 512 calls, drawn from fixed seeds, on SentRoads and on the model: every answer must be the same. */
public final class ModelTest {
  private static final int RUNS = 1500, TIGHT_RUNS = 300, CALLS = 512, MOST_WRONG = 20;
  private static final int[] ODD = {-1, -2, 6, 7, 8, 12, 16, 17, 24, 32, 40, 41, 63, 64, 99, 100, 256,
    Integer.MIN_VALUE, Integer.MAX_VALUE};

  private final Random random;
  private final SentRoads x = new SentRoads();
  private final Model m = new Model();
  /** How many LANDS and marks the run is about: the fewer, the more meets. */
  private final int lands, marks;
  private String call;
  private int got, want;

  private ModelTest(long seed) {
    random = new Random(seed);
    lands = 2 + random.nextInt(5);
    marks = 1 + random.nextInt(6);
  }

  public static void main(String[] args) {
    int wrong = 0;
    long asked = 0;
    int[] refusals = new int[21];
    int greatestRoad = 0;
    for (int run = 0; run < RUNS && wrong < MOST_WRONG; run++) {
      ModelTest t = new ModelTest(run);
      boolean oddRun = run % 3 == 0;
      for (int i = 0; i < CALLS; i++) {
        t.step(oddRun, i);
        asked++;
        if (t.got != t.want) {
          wrong++;
          System.out.println("seed " + run + ", call " + i + ": " + t.call + " answered " + t.got + ", the model says " + t.want);
          break;
        }
        if (t.got < 0 && t.got >= -20) refusals[-t.got]++;
        if (t.call.startsWith("road(") && t.call.endsWith(", -1)")) greatestRoad = Math.max(greatestRoad, t.got);
      }
    }
    for (int run = 0; run < TIGHT_RUNS && wrong < MOST_WRONG; run++) {
      ModelTest t = new ModelTest(100000 + run);
      t.tightWorld(run % 4);
      for (int i = 0; i < 48 && t.got == t.want; i++) {
        t.tightAsk(i % 6, i / 6);
        asked++;
        greatestRoad = Math.max(greatestRoad, t.call.endsWith(", -1)") ? t.got : 0);
      }
      if (t.got != t.want) {
        wrong++;
        System.out.println("tight " + run + ": " + t.call + " answered " + t.got + ", the model says " + t.want);
      }
    }
    for (int refusal : new int[] {1, 2, 3, 4, 11, 12, 13, 14}) {
      if (refusals[refusal] == 0) {
        wrong++;
        System.out.println("no call was ever refused with -" + refusal);
      }
    }
    System.out.println(asked + " answers, " + wrong + " not as the model's, the longest road " + greatestRoad);
    if (wrong != 0 || greatestRoad < 27) {
      System.exit(1);
    }
  }

  private static final String[] TIGHT = {
    "A:a0..9;A:f0..9!;A:e0..9;B:d0..9;B:e0..9!;B:f0..9!;C:a0..9!;C:d0..9!;C:d0..9",
    "D:f0..9!;D:c0..9!;D:d0..9!;E:a0..9;E:b0..9;E:a0..9;F:f0..9!;F:c0..9!;F:f0..9",
    "C>F*h;D>E*jh+S;C>E*j+DS;B>C*o+S;A>F*jh+S;E>F*ph+S;E>D*ojh+DS;F>C*ojh+DS;B>E*ojk+DO;A>B*oh+SO;E>B*oj+S;F>E*ojph+O",
  };
  private static final int[] TIGHT_DEEDS = {31, 34, 46, 38, 8, 14, 57, 49}, TIGHT_LANDS = {0, 5, 0, 2, 1, 2, 2, 0};

  /** A world with a ROAD of 27 papers, in which a little is drawn anew: roads stay long there. */
  private void tightWorld(int changes) {
    for (String text : TIGHT) {
      type(text);
      told("world", x.world(), m.world(), text);
    }
    for (int d = 0; d < 8; d++) {
      int charged = below(8) < changes ? 1 + below(63) : TIGHT_DEEDS[d], land = below(8) < changes ? below(6) : TIGHT_LANDS[d];
      told("deed", x.deed(charged, charged, land, 0), m.deed(charged, charged, land, 0));
    }
    for (int p = 0; p < 12; p++) {
      int bars = below(12) < changes ? below(32) : x.paper(p, 5);
      told("bars", x.bars(p, bars), m.bars(p, bars), p, bars);
    }
    int of = below(4) < changes ? below(6) : 0, at = below(4) < changes ? below(6) : 0;
    told("man", x.man(0, of), m.man(0, of));
    told("man", x.man(1, at), m.man(1, at));
  }

  private void tightAsk(int land, int deed) {
    int length = x.road(land, deed, -1);
    if (below(4) == 0) {
      told("mended", x.mended(land, deed), m.mended(land, deed), land, deed);
    } else if (length > 0 && below(2) == 0) {
      int i = below(length);
      told("road", x.road(land, deed, i), m.road(land, deed, i), land, deed, i);
    } else {
      told("road", length, m.road(land, deed, -1), land, deed, -1);
    }
  }

  private int below(int n) {
    return random.nextInt(n);
  }

  /** A number below n; in an odd run now and then any other. */
  private int arg(int n, boolean odd) {
    return odd && below(25) == 0 ? ODD[below(ODD.length)] : n < 1 ? 0 : below(n);
  }

  private int land(boolean odd) {
    return arg(lands, odd);
  }

  private int set(boolean odd) {
    return arg(1 << marks, odd);
  }

  private int few(int bits, boolean odd) {
    return below(3) != 0 ? 0 : arg(1 << bits, odd);
  }

  private void told(String name, int got, int want, Object... args) {
    StringBuilder s = new StringBuilder(name).append('(');
    for (int i = 0; i < args.length; i++) {
      s.append(i == 0 ? "" : ", ").append(args[i]);
    }
    call = s.append(')').toString();
    this.got = got;
    this.want = want;
  }

  private void step(boolean odd, int i) {
    int kind = below(i < 60 ? 30 : 100);
    if (kind < 12) {
      makes(kind, odd);
    } else if (kind < 20) {
      text(odd);
    } else if (kind < 30) {
      moves(odd);
    } else if (kind < 40) {
      sheets(odd);
    } else {
      asks(odd);
    }
  }

  private void makes(int kind, boolean odd) {
    int from = land(odd), to = land(odd), bars = few(5, odd), age = few(5, odd), promised = few(3, odd);
    if (kind < 4) {
      int must = set(odd), but = set(odd) & ~must & (below(2) == 0 ? 0 : -1), most = arg(41, odd), least = Math.min(most, arg(5, odd));
      boolean death = below(4) == 0;
      told("crime", x.crime(from, must, but, least, most, death), m.crime(from, must, but, least, most, death), from, must, but, least, most, death);
    } else if (kind < 6) {
      int charged = set(odd), shown = below(2) == 0 ? charged : set(odd), year = arg(40, odd);
      told("deed", x.deed(charged, shown, from, year), m.deed(charged, shown, from, year), charged, shown, from, year);
    } else if (kind < 8) {
      int n = arg(12, odd);
      told("years", x.years(from, to, n, bars, age, promised), m.years(from, to, n, bars, age, promised), from, to, n, bars, age, promised);
    } else if (kind < 9) {
      int of = 0;
      for (int c = 0; c < x.count(0); c++) {
        of |= x.crimeOf(c, 0) == to && below(2) == 0 ? 1 << c : 0;
      }
      int crimes = odd && below(10) == 0 ? arg(1 << 10, true) : of;
      told("named", x.named(from, to, crimes, bars, age, promised), m.named(from, to, crimes, bars, age, promised), from, to, crimes, bars, age, promised);
    } else if (kind < 11) {
      told("custom", x.custom(from, to, bars, age, promised), m.custom(from, to, bars, age, promised), from, to, bars, age, promised);
    } else {
      int deeds = arg(1 << x.count(1), odd), day = arg(5, odd);
      told("demand", x.demand(from, deeds, day), m.demand(from, deeds, day), from, deeds, day);
    }
  }

  private static final String[] BITS = {"A", "B", "C", ":", ">", "a", "b", "c", "f", "-", "1", "4", "0", "..", ".", "!", "y", "*",
    "o", "j", "p", "k", "h", "t", "9", "+", "D", "S", "O", ";", " ", "A>B", "A:a", "1..4", "A>B*", "B:b2..3", ";C>A y3", "G", "g", "41"};

  private String marksText() {
    StringBuilder s = new StringBuilder();
    for (char c = 'a'; c <= 'f'; c++) {
      s.append(below(3) == 0 ? "" + c : "");
    }
    return s.isEmpty() ? "a" : s.toString();
  }

  private String clauseText() {
    String from = "" + (char) ('A' + below(lands)), to = "" + (char) ('A' + below(lands));
    if (below(2) == 0) {
      int least = below(9);
      return from + ":" + marksText() + (below(4) == 0 ? "-" + marksText() : "") + least + ".." + (least + below(33)) + (below(4) == 0 ? "!" : "");
    }
    String kind = below(2) == 0 ? "*" : "y" + below(14), bar = below(3) == 0 ? "" + "ojpkh".charAt(below(5)) : "";
    return from + ">" + to + kind + bar + (below(4) == 0 ? "t" + below(60) : "") + (below(3) == 0 ? new String[] {"+D", "+S", "+O", "+DS", "+SO", "+DSO"}[below(6)] : "");
  }

  private String anyText() {
    StringBuilder s = new StringBuilder();
    int clauses = below(6) == 0 ? 1 + below(13) : 1 + below(3);
    for (int i = 0; i < clauses; i++) {
      s.append(i == 0 ? "" : ";").append(clauseText());
    }
    for (int spoil = below(4); spoil > 1; spoil--) {
      int at = below(s.length() + 1);
      if (below(2) == 0) {
        s.insert(at, below(2) == 0 ? " " : BITS[below(BITS.length)]);
      } else if (at < s.length()) {
        s.deleteCharAt(at);
      }
    }
    return s.length() > 120 ? s.substring(0, 120) : s.toString();
  }

  /** A whole text and its world; the world's answer, or the first wrong one of the tape's, is told. */
  private void text(boolean odd) {
    if (odd && below(6) == 0) {
      long w = below(2) == 0 ? random.nextLong() : 0x4142434445464748L;
      int n = arg(9, true);
      told("type", x.type(w, n), m.type(w, n), w, n);
      return;
    }
    String text = anyText();
    type(text);
    if (got == want) {
      told("world", x.world(), m.world(), text);
    }
  }

  private void type(String text) {
    got = 0;
    want = 0;
    for (int i = 0; i < text.length() && got == want; i += 8) {
      String piece = text.substring(i, Math.min(text.length(), i + 8));
      long w = 0;
      for (int k = 0; k < piece.length(); k++) {
        w = w << 8 | piece.charAt(k);
      }
      told("type", x.type(w, piece.length()), m.type(w, piece.length()), piece);
    }
  }

  private void moves(boolean odd) {
    int paper = arg(x.count(2), odd), deed = arg(x.count(1), odd), what = arg(3, odd);
    switch (below(6)) {
      case 0 -> {
        int v = what == 2 ? arg(60, odd) : land(odd);
        told("man", x.man(what, v), m.man(what, v), what, v);
      }
      case 1 -> {
        boolean is = below(3) == 0;
        told("judged", x.judged(deed, is), m.judged(deed, is), deed, is);
      }
      case 2 -> {
        int bars = few(5, odd);
        told("bars", x.bars(paper, bars), m.bars(paper, bars), paper, bars);
      }
      case 3 -> images();
      default -> told("send", x.send(paper), m.send(paper), paper);
    }
  }

  private void images() {
    if (below(2) == 0) {
      told("image", x.image(), m.image());
    } else if (below(2) == 0) {
      told("restore", x.restore(), m.restore());
    } else {
      told("lands", x.lands(), m.lands());
    }
  }

  private void sheets(boolean odd) {
    int sheet = arg(4, odd), lane = below(2) == 0 ? sheet % 3 : arg(3, odd), i = arg(16, odd), deed = arg(x.count(1), odd);
    switch (below(8)) {
      case 0, 1 -> {
        int n = arg(17, odd);
        told("sheet", x.sheet(sheet, lane, n), m.sheet(sheet, lane, n), sheet, lane, n);
      }
      case 2 -> told("drop", x.drop(sheet), m.drop(sheet), sheet);
      case 3, 4 -> {
        int from = arg(10, odd);
        told("shows", x.shows(deed, sheet, lane, from), m.shows(deed, sheet, lane, from), deed, sheet, lane, from);
      }
      default -> {
        int v = below(2) == 0 ? 1 : below(5) << 6;
        told("item", x.item(sheet, lane, i, v), m.item(sheet, lane, i, v), sheet, lane, i, v);
      }
    }
  }

  private void asks(boolean odd) {
    int paper = arg(x.count(2), odd), deed = arg(x.count(1), odd), land = land(odd), how = arg(2, odd);
    switch (below(18)) {
      case 0 -> {
        int crime = arg(x.count(0), odd), what = arg(6, odd);
        told("crimeOf", x.crimeOf(crime, what), m.crimeOf(crime, what), crime, what);
      }
      case 1 -> {
        int what = arg(8, odd);
        told("paper", x.paper(paper, what), m.paper(paper, what), paper, what);
      }
      case 2 -> told("matches", x.matches(deed, land, how), m.matches(deed, land, how), deed, land, how);
      case 3 -> told("yearsOf", x.yearsOf(deed, land, how), m.yearsOf(deed, land, how), deed, land, how);
      case 4 -> {
        int what = arg(5, odd);
        told("count", x.count(what), m.count(what), what);
      }
      case 5 -> {
        int what = arg(4, odd);
        told("bound", x.bound(what), m.bound(what), what);
      }
      case 6 -> told("covers", x.covers(paper), m.covers(paper), paper);
      case 7 -> told("lets", x.lets(paper), m.lets(paper), paper);
      case 8 -> told("barred", x.barred(paper, deed), m.barred(paper, deed), paper, deed);
      case 9 -> told("tried", x.tried(), m.tried());
      case 10, 11 -> {
        int i = arg(5, odd) - 1;
        told("road", x.road(land, deed, i), m.road(land, deed, i), land, deed, i);
      }
      case 12 -> told("lands", x.lands(), m.lands());
      case 13 -> told("safe", x.safe(how), m.safe(how), how);
      case 14 -> {
        int i = arg(4, odd);
        told("ahead", x.ahead(i), m.ahead(i), i);
      }
      case 15 -> told("promises", x.promises(land, deed), m.promises(land, deed), land, deed);
      case 16 -> told("mended", x.mended(land, deed), m.mended(land, deed), land, deed);
      default -> {
        int b = land(odd);
        told("part", x.part(land, b, how), m.part(land, b, how), land, b, how);
      }
    }
  }
}
