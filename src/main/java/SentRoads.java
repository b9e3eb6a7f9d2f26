import java.util.Arrays;

/**
 * May a man be sent from the land where he sits, by which paper, for which deeds, and by which road of papers
 * may he come where a deed can be tried. Words in capitals are those of the document.
 *
 * <p>Every refusal is an answer. All rows are made with the object and used again by each call.
 */
public final class SentRoads {
  public static final int BAD = -1, NOT = -2, FULL = -3, NONE = -4, NULL = -11, CAST = -12, INDEX = -13, SIZE = -14;

  private static final int LANDS = 6, CRIMES = 24, DEEDS = 8, PAPERS = 12, DEMANDS = 8, SHEETS = 4, CLAUSES = 12;
  private static final int MARKS = 6, ALL_MARKS = 63, ALL_DEEDS = 255, ALL_BARS = 31, ALL_PROMISES = 7;
  private static final int MOST_YEARS = 40, LAST_YEAR = 99;
  private static final int KIND_YEARS = 0, KIND_NAMED = 1, KIND_CUSTOM = 2;
  private static final int BAR_O = 1, BAR_J = 2, BAR_P = 4, BAR_K = 8, BAR_H = 16, BAR_AGE = 32;
  private static final int NO_DEATH = 1, FOR_THAT_ALONE = 2, NOT_PASSED_ON = 4;
  private static final int MARK_F = 32;
  private static final int LANES = 3, LANE_BYTES = 0, LANE_SHORTS = 1, SHEET_ITEMS = 16;
  private static final int TAPE_BYTES = 120, FIRST_FAULT = -20;

  private final World now;
  private final World kept;
  private final Roads roads;
  private final Tape tape;
  private final Sheet[] sheets;
  private boolean hasImage;

  public SentRoads() {
    World world = new World();
    now = world;
    kept = new World();
    roads = new Roads(world);
    tape = new Tape();
    sheets = new Sheet[SHEETS];
    for (int i = 0; i < SHEETS; i++) {
      sheets[i] = new Sheet();
    }
    hasImage = false;
  }

  // ---- 1 crimes, deeds, papers

  public int crime(int land, int must, int but, int least, int most, boolean death) {
    if (!isLand(land) || must < 1 || must > ALL_MARKS || but < 0 || but > ALL_MARKS || (must & but) != 0
        || most < 1 || most > MOST_YEARS || least < 0 || least > most) {
      return BAD;
    }
    if (now.crimeCount >= CRIMES) {
      return FULL;
    }
    now.crimes[now.crimeCount].tell(land, must, but, least, most, death);
    return now.takeCrime();
  }

  public int deed(int charged, int shown, int land, int year) {
    if (charged < 1 || charged > ALL_MARKS || shown < 0 || shown > ALL_MARKS || !isLand(land) || !isYear(year)) {
      return BAD;
    }
    if (now.deedCount >= DEEDS) {
      return FULL;
    }
    now.deeds[now.deedCount].tell(charged, shown, land, year);
    return now.takeDeed();
  }

  public int years(int from, int to, int n, int bars, int age, int promised) {
    if (n < 1 || n > MOST_YEARS) {
      return BAD;
    }
    int number = addPaper(from, to, bars, age, promised);
    if (number >= 0) {
      now.papers[number].become(KIND_YEARS, n, 0);
    }
    return number;
  }

  public int named(int from, int to, int crimes, int bars, int age, int promised) {
    if (!isLand(to) || crimes == 0 || (crimes & ~now.crimesOf(to)) != 0) {
      return BAD;
    }
    int number = addPaper(from, to, bars, age, promised);
    if (number >= 0) {
      now.papers[number].become(KIND_NAMED, 1, crimes);
    }
    return number;
  }

  public int custom(int from, int to, int bars, int age, int promised) {
    int number = addPaper(from, to, bars, age, promised);
    if (number >= 0) {
      now.papers[number].become(KIND_CUSTOM, 1, 0);
    }
    return number;
  }

  public int type(long w, int n) {
    if (n < 1 || n > 8) {
      return BAD;
    }
    for (int i = 0; i < n; i++) {
      int b = byteOf(w, i);
      if (b < 32 || b > 126) {
        return BAD;
      }
    }
    if (tape.length + n > TAPE_BYTES) {
      return FULL;
    }
    for (int i = n - 1; i >= 0; i--) {
      tape.write((char) byteOf(w, i));
    }
    return tape.length;
  }

  public int world() {
    int clauses = tape.parse();
    tape.length = 0;
    if (clauses < 0) {
      return clauses;
    }
    if (now.crimeCount + tape.crimeCount > CRIMES || now.paperCount + tape.paperCount > PAPERS) {
      return FULL;
    }
    for (int i = 0; i < tape.crimeCount; i++) {
      now.crimes[now.crimeCount].copy(tape.crimes[i]);
      now.takeCrime();
    }
    for (int i = 0; i < tape.paperCount; i++) {
      now.papers[now.paperCount].copy(tape.papers[i]);
      now.takePaper();
    }
    return clauses;
  }

  public int crimeOf(int crime, int what) {
    if (crime < 0 || crime >= now.crimeCount) {
      return BAD;
    }
    Crime c = now.crimes[crime];
    switch (what) {
      case 0: return c.land;
      case 1: return c.must;
      case 2: return c.but;
      case 3: return c.least;
      case 4: return c.most;
      case 5: return c.death ? 1 : 0;
      default: return BAD;
    }
  }

  public int paper(int paper, int what) {
    if (!isPaper(paper)) {
      return BAD;
    }
    Paper p = now.papers[paper];
    switch (what) {
      case 0: return p.kind;
      case 1: return p.from;
      case 2: return p.to;
      // NAMED stands below YEARS: it has n, too, which is 1.
      case 3: return p.kind == KIND_CUSTOM ? CAST : p.n;
      case 4: return p.kind == KIND_NAMED ? p.crimes : CAST;
      case 5: return p.bars;
      case 6: return p.age;
      case 7: return p.promised;
      default: return BAD;
    }
  }

  public int bars(int paper, int bars) {
    if (!isPaper(paper) || bars < 0 || bars > ALL_BARS) {
      return BAD;
    }
    int was = now.papers[paper].bars;
    now.papers[paper].bars = bars;
    return was;
  }

  public int matches(int deed, int land, int how) {
    if (!isDeed(deed) || !isLand(land) || how < 0 || how > 1) {
      return BAD;
    }
    Deed d = now.deeds[deed];
    return now.crimesOf(land) & (how == 0 ? d.chargedCrimes : d.shownCrimes);
  }

  public int yearsOf(int deed, int land, int how) {
    if (!isDeed(deed) || !isLand(land) || how < 0 || how > 1) {
      return BAD;
    }
    Deed d = now.deeds[deed];
    return how == 0 ? d.chargedYears[land] : d.shownYears[land];
  }

  public int shows(int deed, int sheet, int lane, int from) {
    if (!isDeed(deed) || !isSheet(sheet) || !isLane(lane)) {
      return BAD;
    }
    Sheet row = sheets[sheet];
    int refusal = row.refuse(lane);
    if (refusal != 0) {
      return refusal;
    }
    if (from < 0 || from > row.size - MARKS) {
      return INDEX;
    }
    int was = now.deeds[deed].shown;
    now.deeds[deed].shown = row.marksFrom(from);
    now.learnAgain(deed);
    return was;
  }

  public int count(int what) {
    switch (what) {
      case 0: return now.crimeCount;
      case 1: return now.deedCount;
      case 2: return now.paperCount;
      case 3: return now.demandCount;
      case 4: return now.man.sent;
      default: return BAD;
    }
  }

  // ---- 2 the man

  public int man(int what, int v) {
    int was;
    if (what == 0 && isLand(v)) {
      was = now.man.of;
      now.man.of = v;
    } else if (what == 1 && isLand(v)) {
      was = now.man.at;
      now.man.sit(v);
    } else if (what == 2 && isYear(v)) {
      was = now.man.year;
      now.man.year = v;
    } else {
      was = BAD;
    }
    return was;
  }

  public int judged(int deed, boolean is) {
    if (!isDeed(deed)) {
      return BAD;
    }
    int was = now.deeds[deed].judged ? 1 : 0;
    now.deeds[deed].judged = is;
    return was;
  }

  public int bound(int what) {
    switch (what) {
      case 0: return now.man.noDeath ? 1 : 0;
      case 1: return now.man.onlyTo;
      case 2: return now.man.deeds & now.allDeeds();
      case 3: return now.man.at;
      default: return BAD;
    }
  }

  public int covers(int paper) {
    return isPaper(paper) ? now.coveredBy(now.papers[paper]) : BAD;
  }

  public int lets(int paper) {
    if (!isPaper(paper)) {
      return BAD;
    }
    Paper p = now.papers[paper];
    if (p.from != now.man.at) {
      return NOT;
    }
    now.weigh(p);
    return now.man.goesBy(p);
  }

  public int barred(int paper, int deed) {
    return isPaper(paper) && isDeed(deed) ? now.barsAgainst(now.papers[paper], now.deeds[deed]) : BAD;
  }

  public int send(int paper) {
    int deeds = lets(paper);
    if (deeds < 0) {
      return deeds;
    }
    if (deeds == 0) {
      return NONE;
    }
    now.man.go(now.papers[paper], deeds);
    now.man.sent++;
    return deeds;
  }

  public int tried() {
    return now.triedBy(now.man);
  }

  public int road(int land, int deed, int i) {
    if (!isLand(land) || !isDeed(deed) || i < -1) {
      return BAD;
    }
    now.weighAll();
    int end = roads.find(land, deed);
    if (end < 0) {
      return NONE;
    }
    int length = roads.lengthTo(end);
    if (i == -1) {
      return length;
    }
    return i < length ? roads.paperOn(end, length - 1 - i) : NONE;
  }

  public int lands() {
    now.weighAll();
    return roads.reach();
  }

  public int safe(int what) {
    if (what < 0 || what > 1) {
      return BAD;
    }
    now.weighAll();
    return roads.safeLands(what == 1);
  }

  // ---- 3 demands, promises, mending

  public int demand(int land, int deeds, int day) {
    if (!isLand(land) || deeds == 0 || (deeds & ~now.allDeeds()) != 0 || !isYear(day)) {
      return BAD;
    }
    if (now.demandCount >= DEMANDS) {
      return FULL;
    }
    now.demands[now.demandCount].tell(land, deeds, day);
    now.demandCount++;
    return now.demandCount - 1;
  }

  public int ahead(int i) {
    if (i < 0) {
      return BAD;
    }
    now.weighAll();
    now.weighDemands();
    for (int d = 0; d < now.demandCount; d++) {
      if (now.demands[d].standing != 0 && now.placeOf(d) == i) {
        return d;
      }
    }
    return NONE;
  }

  public int promises(int land, int deed) {
    if (!isLand(land) || !isDeed(deed)) {
      return BAD;
    }
    now.weighAll();
    int best = NONE;
    for (int i = 0; i < now.paperCount; i++) {
      Paper p = now.papers[i];
      if (p.to == land && (now.man.goesBy(p) >> deed & 1) != 0 && isLess(p.promised, best)) {
        best = p.promised;
      }
    }
    return best;
  }

  public int mended(int land, int deed) {
    if (!isLand(land) || !isDeed(deed)) {
      return BAD;
    }
    now.weighAlone(deed);
    return roads.fewestBars(land, deed);
  }

  public int part(int a, int b, int what) {
    if (!isLand(a) || !isLand(b) || a == b || what < 0 || what > 1) {
      return BAD;
    }
    int least = NONE;
    int parted = 0;
    for (int marks = ALL_MARKS; marks >= 1; marks--) {
      int lands = now.landsWhereCrime(marks);
      if ((lands >> a & 1) != (lands >> b & 1)) {
        least = marks;
        parted++;
      }
    }
    return what == 0 ? least : parted;
  }

  public int image() {
    kept.copy(now);
    hasImage = true;
    return 1;
  }

  public int restore() {
    if (!hasImage) {
      return NONE;
    }
    now.copy(kept);
    return 1;
  }

  // ---- 4 sheets

  public int sheet(int sheet, int lane, int n) {
    if (!isSheet(sheet) || !isLane(lane) || n > SHEET_ITEMS) {
      return BAD;
    }
    if (n < 0) {
      return SIZE;
    }
    sheets[sheet].begin(lane, n);
    return n;
  }

  public int drop(int sheet) {
    if (!isSheet(sheet)) {
      return BAD;
    }
    Sheet row = sheets[sheet];
    if (row.lane == Sheet.NOTHING) {
      return NULL;
    }
    row.lane = Sheet.NOTHING;
    return row.size;
  }

  public int item(int sheet, int lane, int i, int v) {
    if (!isSheet(sheet) || !isLane(lane)) {
      return BAD;
    }
    Sheet row = sheets[sheet];
    int refusal = row.refuse(lane);
    if (refusal != 0) {
      return refusal;
    }
    if (i < 0 || i >= row.size) {
      return INDEX;
    }
    row.put(i, v);
    return 1;
  }

  // ---- what an argument may be

  private static boolean isLand(int land) {
    return land >= 0 && land < LANDS;
  }

  /** A YEAR, a DAY. */
  private static boolean isYear(int year) {
    return year >= 0 && year <= LAST_YEAR;
  }

  private static boolean isSheet(int sheet) {
    return sheet >= 0 && sheet < SHEETS;
  }

  private static boolean isLane(int lane) {
    return lane >= 0 && lane < LANES;
  }

  private boolean isDeed(int deed) {
    return deed >= 0 && deed < now.deedCount;
  }

  private boolean isPaper(int paper) {
    return paper >= 0 && paper < now.paperCount;
  }

  /** A paper whose KIND is still to be told: its number, BAD or FULL. */
  private int addPaper(int from, int to, int bars, int age, int promised) {
    if (!isLand(from) || !isLand(to) || from == to || bars < 0 || bars > ALL_BARS || !isYear(age)
        || promised < 0 || promised > ALL_PROMISES) {
      return BAD;
    }
    if (now.paperCount >= PAPERS) {
      return FULL;
    }
    Paper paper = now.papers[now.paperCount];
    paper.lead(from, to);
    paper.rule(bars, age, promised);
    return now.takePaper();
  }

  private static int byteOf(long w, int i) {
    return (int) (w >>> (8 * i)) & 255;
  }

  /** Whether these promises are fewer than the best so far (NONE: there is no best yet). */
  private static boolean isLess(int promised, int best) {
    if (best == NONE) {
      return true;
    }
    int fewer = Integer.bitCount(promised) - Integer.bitCount(best);
    return fewer < 0 || fewer == 0 && promised < best;
  }

  // ---- the classes inside

  private static final class Crime {
    int land;
    int must;
    int but;
    int least;
    int most;
    boolean death;

    void tell(int land, int must, int but, int least, int most, boolean death) {
      this.land = land;
      this.must = must;
      this.but = but;
      this.least = least;
      this.most = most;
      this.death = death;
    }

    void copy(Crime other) {
      tell(other.land, other.must, other.but, other.least, other.most, other.death);
    }

    boolean isMarks(int marks) {
      return (marks & must) == must && (marks & but) == 0;
    }
  }

  /** A DEED, with what the CRIMES say of it: learnt as they come, so that no call has to look at them again. */
  private static final class Deed {
    int charged;
    int shown;
    int land;
    int year;
    boolean judged;
    int chargedCrimes;
    int shownCrimes;
    int deadlyLands;
    final int[] chargedYears = new int[LANDS];
    final int[] shownYears = new int[LANDS];

    void tell(int charged, int shown, int land, int year) {
      this.charged = charged;
      this.shown = shown;
      this.land = land;
      this.year = year;
      this.judged = false;
    }

    void copy(Deed other) {
      tell(other.charged, other.shown, other.land, other.year);
      judged = other.judged;
    }

    void forget() {
      chargedCrimes = 0;
      shownCrimes = 0;
      deadlyLands = 0;
      Arrays.fill(chargedYears, 0);
      Arrays.fill(shownYears, 0);
    }

    void learn(int number, Crime crime) {
      int land = crime.land;
      if (crime.isMarks(charged)) {
        chargedCrimes |= 1 << number;
        chargedYears[land] = Math.max(chargedYears[land], crime.most);
        deadlyLands |= crime.death ? 1 << land : 0;
      }
      if (crime.isMarks(shown)) {
        shownCrimes |= 1 << number;
        shownYears[land] = Math.max(shownYears[land], crime.most);
      }
    }

    boolean isDeadly(int land) {
      return (deadlyLands >> land & 1) != 0;
    }

    /** As MOST is never 0, there are YEARS just where it is a CRIME. */
    boolean isCrime(int land) {
      return chargedYears[land] > 0;
    }
  }

  private static final class Paper {
    int kind;
    int from;
    int to;
    int n;
    int crimes;
    int bars;
    int age;
    int promised;
    /** DEEDS that nothing of the paper's own holds back, and those that are DEADLY in TO: told anew by weighing. */
    int open;
    int deadly;

    void lead(int from, int to) {
      this.from = from;
      this.to = to;
    }

    void become(int kind, int n, int crimes) {
      this.kind = kind;
      this.n = n;
      this.crimes = crimes;
    }

    void rule(int bars, int age, int promised) {
      this.bars = bars;
      this.age = age;
      this.promised = promised;
    }

    void copy(Paper other) {
      lead(other.from, other.to);
      become(other.kind, other.n, other.crimes);
      rule(other.bars, other.age, other.promised);
    }

    boolean pledges(int promise) {
      return (promised & promise) != 0;
    }

    boolean isFor(Deed deed) {
      if (deed.shownYears[from] < n || deed.chargedYears[to] < n) {
        return false;
      }
      switch (kind) {
        case KIND_NAMED: return (deed.chargedCrimes & crimes) != 0;
        case KIND_CUSTOM: return (deed.charged & ~deed.shown) == 0;
        default: return true;
      }
    }
  }

  /** THE MAN, or a thought of him on a road. */
  private static final class Man {
    int of;
    int at;
    int year;
    int sent;
    boolean noDeath;
    int onlyTo = NONE;
    int deeds = ALL_DEEDS;

    void sit(int land) {
      at = land;
      noDeath = false;
      onlyTo = NONE;
      deeds = ALL_DEEDS;
    }

    void stand(Man other) {
      at = other.at;
      noDeath = other.noDeath;
      onlyTo = other.onlyTo;
      deeds = other.deeds;
    }

    void copy(Man other) {
      stand(other);
      of = other.of;
      year = other.year;
      sent = other.sent;
    }

    /** DEEDS that a weighed paper LETS go. */
    int goesBy(Paper paper) {
      if (paper.from != at || onlyTo != NONE && onlyTo != paper.to) {
        return 0;
      }
      int free = paper.open & deeds;
      return noDeath && !paper.pledges(NO_DEATH) ? free & ~paper.deadly : free;
    }

    void go(Paper paper, int sentFor) {
      at = paper.to;
      noDeath = paper.pledges(NO_DEATH);
      onlyTo = paper.pledges(NOT_PASSED_ON) ? paper.from : NONE;
      deeds = paper.pledges(FOR_THAT_ALONE) ? sentFor : ALL_DEEDS;
    }
  }

  private static final class Demand {
    int land;
    int deeds;
    int day;
    /** Its DEEDS that some paper LETS go, their greatest YEARS, whether one was in its LAND: told by weighing. */
    int standing;
    int years;
    boolean home;

    void tell(int land, int deeds, int day) {
      this.land = land;
      this.deeds = deeds;
      this.day = day;
    }

    /** Below 0, if this one goes ahead of the other; 0, if only their numbers tell. */
    int order(Demand other) {
      if (years != other.years) {
        return other.years - years;
      }
      if (home != other.home) {
        return home ? -1 : 1;
      }
      return day - other.day;
    }
  }

  /** All that an IMAGE keeps. */
  private static final class World {
    final Crime[] crimes = new Crime[CRIMES];
    final Deed[] deeds = new Deed[DEEDS];
    final Paper[] papers = new Paper[PAPERS];
    final Demand[] demands = new Demand[DEMANDS];
    final Man man = new Man();
    int crimeCount;
    int deedCount;
    int paperCount;
    int demandCount;

    World() {
      for (int i = 0; i < CRIMES; i++) {
        crimes[i] = new Crime();
      }
      for (int i = 0; i < DEEDS; i++) {
        deeds[i] = new Deed();
      }
      for (int i = 0; i < PAPERS; i++) {
        papers[i] = new Paper();
      }
      for (int i = 0; i < DEMANDS; i++) {
        demands[i] = new Demand();
      }
    }

    void copy(World other) {
      crimeCount = other.crimeCount;
      for (int i = 0; i < crimeCount; i++) {
        crimes[i].copy(other.crimes[i]);
      }
      deedCount = other.deedCount;
      for (int i = 0; i < deedCount; i++) {
        deeds[i].copy(other.deeds[i]);
        learnAgain(i);
      }
      paperCount = other.paperCount;
      for (int i = 0; i < paperCount; i++) {
        papers[i].copy(other.papers[i]);
      }
      demandCount = other.demandCount;
      for (int i = 0; i < demandCount; i++) {
        demands[i].tell(other.demands[i].land, other.demands[i].deeds, other.demands[i].day);
      }
      man.copy(other.man);
    }

    /** The CRIME told behind the last one comes: its number. */
    int takeCrime() {
      for (int i = 0; i < deedCount; i++) {
        deeds[i].learn(crimeCount, crimes[crimeCount]);
      }
      crimeCount++;
      return crimeCount - 1;
    }

    int takeDeed() {
      learnAgain(deedCount);
      deedCount++;
      return deedCount - 1;
    }

    int takePaper() {
      paperCount++;
      return paperCount - 1;
    }

    void learnAgain(int deed) {
      deeds[deed].forget();
      for (int i = 0; i < crimeCount; i++) {
        deeds[deed].learn(i, crimes[i]);
      }
    }

    int allDeeds() {
      return (1 << deedCount) - 1;
    }

    int crimesOf(int land) {
      int bits = 0;
      for (int i = 0; i < crimeCount; i++) {
        bits |= crimes[i].land == land ? 1 << i : 0;
      }
      return bits;
    }

    int landsWhereCrime(int marks) {
      int lands = 0;
      for (int i = 0; i < crimeCount; i++) {
        lands |= crimes[i].isMarks(marks) ? 1 << crimes[i].land : 0;
      }
      return lands;
    }

    int coveredBy(Paper paper) {
      int bits = 0;
      for (int i = 0; i < deedCount; i++) {
        bits |= paper.isFor(deeds[i]) ? 1 << i : 0;
      }
      return bits;
    }

    int barsAgainst(Paper paper, Deed deed) {
      int bits = 0;
      bits |= man.of == paper.from ? BAR_O : 0;
      bits |= deed.judged ? BAR_J : 0;
      bits |= (deed.charged & MARK_F) != 0 ? BAR_P : 0;
      bits |= deed.isDeadly(paper.to) && !paper.pledges(NO_DEATH) ? BAR_K : 0;
      bits |= deed.land == paper.from ? BAR_H : 0;
      bits &= paper.bars;
      return paper.age != 0 && man.year - deed.year > paper.age ? bits | BAR_AGE : bits;
    }

    void weigh(Paper paper) {
      paper.open = 0;
      paper.deadly = 0;
      for (int i = 0; i < deedCount; i++) {
        Deed deed = deeds[i];
        paper.open |= paper.isFor(deed) && barsAgainst(paper, deed) == 0 ? 1 << i : 0;
        paper.deadly |= deed.isDeadly(paper.to) ? 1 << i : 0;
      }
    }

    void weighAll() {
      for (int i = 0; i < paperCount; i++) {
        weigh(papers[i]);
      }
    }

    /** As if there were that DEED alone, and no BARS. */
    void weighAlone(int deed) {
      for (int i = 0; i < paperCount; i++) {
        Paper paper = papers[i];
        paper.open = paper.isFor(deeds[deed]) ? 1 << deed : 0;
        paper.deadly = deeds[deed].isDeadly(paper.to) ? 1 << deed : 0;
      }
    }

    int triedBy(Man who) {
      int bits = 0;
      for (int i = 0; i < deedCount; i++) {
        bits |= deeds[i].isCrime(who.at) && !deeds[i].judged ? 1 << i : 0;
      }
      return bits & who.deeds;
    }

    void weighDemands() {
      for (int i = 0; i < demandCount; i++) {
        Demand demand = demands[i];
        demand.standing = demand.deeds & letTo(demand.land);
        demand.years = 0;
        demand.home = false;
        for (int d = 0; d < deedCount; d++) {
          if ((demand.standing >> d & 1) != 0) {
            demand.years = Math.max(demand.years, deeds[d].chargedYears[demand.land]);
            demand.home = demand.home || deeds[d].land == demand.land;
          }
        }
      }
    }

    /** DEEDS that some paper to a LAND LETS go. */
    int letTo(int land) {
      int bits = 0;
      for (int i = 0; i < paperCount; i++) {
        bits |= papers[i].to == land ? man.goesBy(papers[i]) : 0;
      }
      return bits;
    }

    /** How many weighed DEMANDS that STAND go ahead of this one. */
    int placeOf(int demand) {
      int place = 0;
      for (int i = 0; i < demandCount; i++) {
        int order = demands[i].order(demands[demand]);
        place += demands[i].standing != 0 && (order < 0 || order == 0 && i < demand) ? 1 : 0;
      }
      return place;
    }
  }

  /**
   * Searches over what he can become. Where he sits and what binds him is told by the last paper and the DEEDS for
   * which he was SENT by it, so these two are a step; step 0 is he as he sits now.
   */
  private static final class Roads {
    private static final int SETS = ALL_DEEDS + 1, UNREACHED = 1000;

    final World world;
    final Man walker = new Man();
    final int[] seenIn = new int[PAPERS * SETS];
    final int[] steps = new int[PAPERS * SETS + 1];
    final int[] comesFrom = new int[PAPERS * SETS + 1];
    final int[] fewest = new int[PAPERS];
    int stepCount;
    int search;

    Roads(World world) {
      this.world = world;
    }

    /**
     * The step that ends the first of the shortest ROADS, or NONE. Steps come in the order of their roads, so the
     * first that ends one is the one that is due.
     */
    int find(int land, int deed) {
      begin();
      for (int step = 0; step < steps.length && step < stepCount; step++) {
        placeWalker(step);
        if (walker.at == land && (world.triedBy(walker) >> deed & 1) != 0) {
          return step;
        }
        spread(step);
      }
      return NONE;
    }

    /** LANDS to which he can come. */
    int reach() {
      int bits = 0;
      begin();
      for (int step = 0; step < steps.length && step < stepCount; step++) {
        placeWalker(step);
        bits |= 1 << walker.at;
        spread(step);
      }
      return bits;
    }

    void begin() {
      // A new number stands for a cleared row of what was seen.
      search++;
      stepCount = 1;
    }

    void placeWalker(int step) {
      if (step == 0) {
        walker.stand(world.man);
      } else {
        walker.go(world.papers[steps[step] / SETS], steps[step] % SETS);
      }
    }

    void spread(int step) {
      for (int i = 0; i < world.paperCount; i++) {
        int deeds = walker.goesBy(world.papers[i]);
        int key = i * SETS + (world.papers[i].pledges(FOR_THAT_ALONE) ? deeds : ALL_DEEDS);
        if (deeds != 0 && seenIn[key] != search && stepCount < steps.length) {
          seenIn[key] = search;
          steps[stepCount] = key;
          comesFrom[stepCount] = step;
          stepCount++;
        }
      }
    }

    int lengthTo(int end) {
      int length = 0;
      for (int step = end; step > 0 && length < steps.length; step = comesFrom[step]) {
        length++;
      }
      return length;
    }

    /** The paper of a road that stands so many ahead of its last one. */
    int paperOn(int end, int back) {
      int step = end;
      for (int i = 0; i < back; i++) {
        step = comesFrom[step];
      }
      return steps[step] / SETS;
    }

    int safeLands(boolean harbours) {
      int bits = 0;
      for (int land = 0; land < LANDS; land++) {
        walker.sit(land);
        boolean safe = !(harbours && world.triedBy(walker) != 0);
        for (int i = 0; i < world.paperCount; i++) {
          safe = safe && walker.goesBy(world.papers[i]) == 0;
        }
        bits |= safe ? 1 << land : 0;
      }
      return bits;
    }

    /**
     * How many BARS must fall along a ROAD, the papers being weighed for that DEED alone. A paper leaves him as it
     * always does, so no road needs one twice: there are at most as many rounds as papers.
     */
    int fewestBars(int land, int deed) {
      walker.stand(world.man);
      if (walker.at == land && (world.triedBy(walker) >> deed & 1) != 0) {
        return 0;
      }
      Arrays.fill(fewest, UNREACHED);
      relax(0, deed);
      boolean better = true;
      for (int round = 0; better && round < world.paperCount; round++) {
        better = false;
        for (int i = 0; i < world.paperCount; i++) {
          if (fewest[i] < UNREACHED) {
            walker.go(world.papers[i], 1 << deed);
            better = relax(fewest[i], deed) || better;
          }
        }
      }
      int best = UNREACHED;
      for (int i = 0; i < world.paperCount; i++) {
        best = world.papers[i].to == land ? Math.min(best, fewest[i]) : best;
      }
      boolean mayBeTried = world.deeds[deed].isCrime(land) && !world.deeds[deed].judged;
      return mayBeTried && best < UNREACHED ? best : NONE;
    }

    /** Goes on from where the walker stands, by every paper: whether some paper is come by with fewer BARS now. */
    boolean relax(int fallen, int deed) {
      boolean better = false;
      for (int i = 0; i < world.paperCount; i++) {
        Paper paper = world.papers[i];
        int sum = fallen + Integer.bitCount(world.barsAgainst(paper, world.deeds[deed]));
        if (sum < fewest[i] && walker.goesBy(paper) != 0) {
          fewest[i] = sum;
          better = true;
        }
      }
      return better;
    }
  }

  /** THE TAPE, and what is read of it as a WORLD. After the first FAULT nothing more is read. */
  private static final class Tape {
    private static final int END = -1, NO_FAULT = -1, BIG = 1000;
    private static final String BARS = "ojpkh", PROMISES = "DSO";

    final char[] bytes = new char[TAPE_BYTES];
    final Crime[] crimes = new Crime[CLAUSES];
    final Paper[] papers = new Paper[CLAUSES];
    int length;
    int crimeCount;
    int paperCount;
    int place;
    int fault;

    Tape() {
      for (int i = 0; i < CLAUSES; i++) {
        crimes[i] = new Crime();
        papers[i] = new Paper();
      }
    }

    void write(char b) {
      if (length < TAPE_BYTES) {
        bytes[length] = b;
        length++;
      }
    }

    /** How many CLAUSES, or a FAULT. */
    int parse() {
      place = 0;
      fault = NO_FAULT;
      crimeCount = 0;
      paperCount = 0;
      int clauses = 0;
      do {
        readClause();
        clauses++;
      } while (clauses < CLAUSES && fault == NO_FAULT && takes(';'));
      if (next() != END) {
        fail(place);
      }
      return fault == NO_FAULT ? clauses : FIRST_FAULT - fault;
    }

    void fail(int where) {
      if (fault == NO_FAULT) {
        fault = where;
      }
    }

    /** The next byte that is no blank; the place is then its own, or behind the last one at the end. */
    int next() {
      while (place < length && bytes[place] == ' ') {
        place++;
      }
      return place < length ? bytes[place] : END;
    }

    boolean takes(int sign) {
      boolean is = next() == sign;
      if (is) {
        place++;
      }
      return is;
    }

    void need(int sign) {
      if (!takes(sign)) {
        fail(place);
      }
    }

    void readClause() {
      int land = readLand(NONE);
      if (takes(':')) {
        readCrime(land);
      } else if (takes('>')) {
        readPaper(land);
      } else {
        fail(place);
      }
    }

    void readCrime(int land) {
      int must = readMarks(0);
      int but = takes('-') ? readMarks(must) : 0;
      int least = readNumber(0, MOST_YEARS);
      need('.');
      need('.');
      int most = readNumber(Math.max(1, least), MOST_YEARS);
      boolean death = takes('!');
      if (fault == NO_FAULT && crimeCount < CLAUSES) {
        crimes[crimeCount].tell(land, must, but, least, most, death);
        crimeCount++;
      }
    }

    void readPaper(int from) {
      int to = readLand(from);
      boolean byYears = takes('y');
      int n = 1;
      if (byYears) {
        n = readNumber(1, MOST_YEARS);
      } else {
        need('*');
      }
      int bars = readLetters(BARS, false);
      int age = takes('t') ? readNumber(1, LAST_YEAR) : 0;
      int promised = takes('+') ? readPromises() : 0;
      if (fault == NO_FAULT && paperCount < CLAUSES) {
        Paper paper = papers[paperCount];
        paper.lead(from, to);
        paper.become(byYears ? KIND_YEARS : KIND_CUSTOM, n, 0);
        paper.rule(bars, age, promised);
        paperCount++;
      }
    }

    /** A LAND that is not this one. */
    int readLand(int not) {
      int land = next() - 'A';
      if (!isLand(land) || land == not) {
        fail(place);
        return 0;
      }
      place++;
      return land;
    }

    /** Marks that rise, one at least, none of those. */
    int readMarks(int not) {
      int marks = 0;
      for (int i = 0; i < MARKS; i++) {
        int mark = next() - 'a';
        if (mark < 0 || mark >= MARKS) {
          break;
        }
        int bit = 1 << mark;
        if (bit <= marks || (bit & not) != 0) {
          fail(place);
          break;
        }
        marks |= bit;
        place++;
      }
      if (marks == 0) {
        fail(place);
      }
      return marks;
    }

    int readNumber(int least, int most) {
      next();
      int first = place;
      int value = 0;
      while (place < length && bytes[place] >= '0' && bytes[place] <= '9') {
        value = Math.min(value * 10 + bytes[place] - '0', BIG);
        place++;
      }
      if (place == first || value < least || value > most) {
        fail(first);
      }
      return value;
    }

    int readPromises() {
      int promised = readLetters(PROMISES, true);
      if (promised == 0) {
        fail(place);
      }
      return promised;
    }

    /** Letters, each once at most, as bits by their place in a text. */
    int readLetters(String letters, boolean rising) {
      int bits = 0;
      for (int i = 0; i < letters.length(); i++) {
        int sign = next();
        int letter = sign == END ? -1 : letters.indexOf((char) sign);
        if (letter < 0) {
          break;
        }
        int bit = 1 << letter;
        if ((bits & bit) != 0 || rising && bit < bits) {
          fail(place);
          break;
        }
        bits |= bit;
        place++;
      }
      return bits;
    }
  }

  private static final class Sheet {
    static final int NOTHING = -1;

    final int[] items = new int[SHEET_ITEMS];
    int lane = NOTHING;
    int size;

    void begin(int lane, int size) {
      this.lane = lane;
      this.size = size;
      Arrays.fill(items, 0);
    }

    /** NULL, CAST, or 0 where it can be taken as a row of a LANE. */
    int refuse(int asLane) {
      if (lane == NOTHING) {
        return NULL;
      }
      return lane == asLane ? 0 : CAST;
    }

    void put(int i, int v) {
      switch (lane) {
        case LANE_BYTES:
          items[i] = (byte) v;
          break;
        case LANE_SHORTS:
          items[i] = (short) v;
          break;
        default:
          items[i] = v;
          break;
      }
    }

    int marksFrom(int from) {
      int marks = 0;
      for (int i = 0; i < MARKS; i++) {
        marks |= items[from + i] != 0 ? 1 << i : 0;
      }
      return marks;
    }
  }
}
