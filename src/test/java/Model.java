import java.util.ArrayList;
import java.util.HashSet;
import java.util.List;
import java.util.Set;
import java.util.TreeSet;

/** The document told again in the plainest way: sets and lists, nothing kept ready, every road walked. */
final class Model {
  static final int BAD = -1, NOT = -2, FULL = -3, NONE = -4, NULL = -11, CAST = -12, INDEX = -13, SIZE = -14;

  record Crime(int land, int must, int but, int least, int most, boolean death) {
    boolean are(int marks) {
      for (int m = 0; m < 6; m++) {
        boolean has = has(marks, m);
        if (has(must, m) && !has || has(but, m) && has) {
          return false;
        }
      }
      return true;
    }
  }

  record Deed(int charged, int shown, int land, int year, boolean judged) { }

  record Paper(int kind, int from, int to, int n, int named, int bars, int age, int promised) { }

  record Demand(int land, int deeds, int day) { }

  /** S is null, if it binds him to all. */
  record Sitting(int at, boolean d, Integer o, Set<Integer> s) {
    boolean boundTo(int deed) {
      return s == null || s.contains(deed);
    }
  }

  record All(List<Crime> crimes, List<Deed> deeds, List<Paper> papers, List<Demand> demands, Sitting sits, int of, int year, int sent) { }

  private List<Crime> crimes = new ArrayList<>();
  private List<Deed> deeds = new ArrayList<>();
  private List<Paper> papers = new ArrayList<>();
  private List<Demand> demands = new ArrayList<>();
  private Sitting sits = new Sitting(0, false, null, null);
  private int of = 0, year = 0, sent = 0;
  private All kept = null;
  private String tape = "";
  private final Object[] sheets = new Object[4];

  static boolean has(int bits, int i) {
    return (bits >> i & 1) == 1;
  }

  private static boolean in(int v, int least, int most) {
    return least <= v && v <= most;
  }

  private static int bits(Set<Integer> set) {
    int b = 0;
    for (int i : set) {
      b += 1 << i;
    }
    return b;
  }

  int crime(int land, int must, int but, int least, int most, boolean death) {
    boolean fine = in(land, 0, 5) && in(must, 1, 63) && in(but, 0, 63) && (must & but) == 0 && in(most, 1, 40) && in(least, 0, most);
    if (!fine) return BAD;
    if (crimes.size() == 24) return FULL;
    crimes.add(new Crime(land, must, but, least, most, death));
    return crimes.size() - 1;
  }

  int deed(int charged, int shown, int land, int year) {
    if (!(in(charged, 1, 63) && in(shown, 0, 63) && in(land, 0, 5) && in(year, 0, 99))) return BAD;
    if (deeds.size() == 8) return FULL;
    deeds.add(new Deed(charged, shown, land, year, false));
    return deeds.size() - 1;
  }

  private int add(Paper p, boolean fine) {
    boolean all = fine && in(p.from, 0, 5) && in(p.to, 0, 5) && p.from != p.to && in(p.bars, 0, 31) && in(p.age, 0, 99) && in(p.promised, 0, 7);
    if (!all) return BAD;
    if (papers.size() == 12) return FULL;
    papers.add(p);
    return papers.size() - 1;
  }

  int years(int from, int to, int n, int bars, int age, int promised) {
    return add(new Paper(0, from, to, n, 0, bars, age, promised), in(n, 1, 40));
  }

  int named(int from, int to, int named, int bars, int age, int promised) {
    boolean fine = named != 0;
    for (int c = 0; c < 32; c++) {
      if (has(named, c)) {
        fine = fine && c < crimes.size() && crimes.get(c).land == to;
      }
    }
    return add(new Paper(1, from, to, 1, named, bars, age, promised), fine);
  }

  int custom(int from, int to, int bars, int age, int promised) {
    return add(new Paper(2, from, to, 1, 0, bars, age, promised), true);
  }

  int type(long w, int n) {
    if (!in(n, 1, 8)) return BAD;
    StringBuilder piece = new StringBuilder();
    for (int i = n - 1; i >= 0; i--) {
      int b = (int) (w >> 8 * i & 255);
      if (!in(b, 32, 126)) return BAD;
      piece.append((char) b);
    }
    if (tape.length() + n > 120) return FULL;
    tape += piece;
    return tape.length();
  }

  int world() {
    String text = tape;
    tape = "";
    WorldText told = new WorldText(text);
    int clauses = told.read();
    if (clauses < 0) return clauses;
    if (crimes.size() + told.crimes.size() > 24 || papers.size() + told.papers.size() > 12) return FULL;
    crimes.addAll(told.crimes);
    papers.addAll(told.papers);
    return clauses;
  }

  int crimeOf(int crime, int what) {
    if (!in(crime, 0, crimes.size() - 1) || !in(what, 0, 5)) return BAD;
    Crime c = crimes.get(crime);
    return new int[] {c.land, c.must, c.but, c.least, c.most, c.death ? 1 : 0}[what];
  }

  int paper(int paper, int what) {
    if (!isPaper(paper) || !in(what, 0, 7)) return BAD;
    Paper p = papers.get(paper);
    if (what == 3 && p.kind == 2 || what == 4 && p.kind != 1) return CAST;
    return new int[] {p.kind, p.from, p.to, p.n, p.named, p.bars, p.age, p.promised}[what];
  }

  int bars(int paper, int bars) {
    if (!isPaper(paper) || !in(bars, 0, 31)) return BAD;
    Paper p = papers.get(paper);
    papers.set(paper, new Paper(p.kind, p.from, p.to, p.n, p.named, bars, p.age, p.promised));
    return p.bars;
  }

  private boolean isPaper(int paper) {
    return in(paper, 0, papers.size() - 1);
  }

  private boolean isDeed(int deed) {
    return in(deed, 0, deeds.size() - 1);
  }

  private int marks(int deed, int how) {
    return how == 0 ? deeds.get(deed).charged : deeds.get(deed).shown;
  }

  int matches(int deed, int land, int how) {
    if (!isDeed(deed) || !in(land, 0, 5) || !in(how, 0, 1)) return BAD;
    Set<Integer> found = new TreeSet<>();
    for (int c = 0; c < crimes.size(); c++) {
      if (crimes.get(c).land == land && crimes.get(c).are(marks(deed, how))) {
        found.add(c);
      }
    }
    return bits(found);
  }

  int yearsOf(int deed, int land, int how) {
    if (!isDeed(deed) || !in(land, 0, 5) || !in(how, 0, 1)) return BAD;
    int greatest = 0;
    for (Crime c : crimes) {
      if (c.land == land && c.are(marks(deed, how)) && c.most > greatest) {
        greatest = c.most;
      }
    }
    return greatest;
  }

  private boolean deadly(int deed, int land) {
    for (Crime c : crimes) {
      if (c.land == land && c.death && c.are(deeds.get(deed).charged)) {
        return true;
      }
    }
    return false;
  }

  private static int laneOf(Object row) {
    return row instanceof byte[] ? 0 : row instanceof short[] ? 1 : 2;
  }

  private static int sizeOf(Object row) {
    return java.lang.reflect.Array.getLength(row);
  }

  int shows(int deed, int sheet, int lane, int from) {
    if (!isDeed(deed) || !in(sheet, 0, 3) || !in(lane, 0, 2)) return BAD;
    if (sheets[sheet] == null) return NULL;
    if (laneOf(sheets[sheet]) != lane) return CAST;
    if (from < 0 || (long) from + 6 > sizeOf(sheets[sheet])) return INDEX;
    int shown = 0;
    for (int m = 0; m < 6; m++) {
      if (java.lang.reflect.Array.getInt(sheets[sheet], from + m) != 0) {
        shown += 1 << m;
      }
    }
    Deed d = deeds.get(deed);
    deeds.set(deed, new Deed(d.charged, shown, d.land, d.year, d.judged));
    return d.shown;
  }

  int count(int what) {
    if (!in(what, 0, 4)) return BAD;
    return new int[] {crimes.size(), deeds.size(), papers.size(), demands.size(), sent}[what];
  }

  int man(int what, int v) {
    if (!in(what, 0, 2) || !in(v, 0, what == 2 ? 99 : 5)) return BAD;
    int was = new int[] {of, sits.at, year}[what];
    if (what == 0) of = v;
    if (what == 1) sits = new Sitting(v, false, null, null);
    if (what == 2) year = v;
    return was;
  }

  int judged(int deed, boolean is) {
    if (!isDeed(deed)) return BAD;
    Deed d = deeds.get(deed);
    deeds.set(deed, new Deed(d.charged, d.shown, d.land, d.year, is));
    return d.judged ? 1 : 0;
  }

  int bound(int what) {
    if (what == 0) return sits.d ? 1 : 0;
    if (what == 1) return sits.o == null ? NONE : sits.o;
    if (what == 3) return sits.at;
    if (what != 2) return BAD;
    Set<Integer> to = new TreeSet<>();
    for (int d = 0; d < deeds.size(); d++) {
      if (sits.boundTo(d)) to.add(d);
    }
    return bits(to);
  }

  private boolean coversDeed(Paper p, int deed) {
    if (yearsOf(deed, p.from, 1) < p.n || yearsOf(deed, p.to, 0) < p.n) return false;
    if (p.kind == 1) {
      for (int c = 0; c < crimes.size(); c++) {
        if (has(p.named, c) && crimes.get(c).are(deeds.get(deed).charged)) return true;
      }
      return false;
    }
    for (int m = 0; p.kind == 2 && m < 6; m++) {
      if (has(deeds.get(deed).charged, m) && !has(deeds.get(deed).shown, m)) return false;
    }
    return true;
  }

  int covers(int paper) {
    if (!isPaper(paper)) return BAD;
    Set<Integer> found = new TreeSet<>();
    for (int d = 0; d < deeds.size(); d++) {
      if (coversDeed(papers.get(paper), d)) found.add(d);
    }
    return bits(found);
  }

  private Set<Integer> barsOf(Paper p, int deed) {
    Deed d = deeds.get(deed);
    boolean[] would = {
      of == p.from, d.judged, has(d.charged, 5), deadly(deed, p.to) && !has(p.promised, 0), d.land == p.from,
    };
    Set<Integer> stand = new TreeSet<>();
    for (int b = 0; b < 5; b++) {
      if (has(p.bars, b) && would[b]) stand.add(b);
    }
    if (p.age > 0 && d.year + p.age < year) stand.add(5);
    return stand;
  }

  private boolean passes(Paper p, int deed, Sitting s) {
    return p.from == s.at && coversDeed(p, deed) && s.boundTo(deed) && (s.o == null || s.o == p.to)
        && (!s.d || has(p.promised, 0) || !deadly(deed, p.to));
  }

  private Set<Integer> letsGo(Paper p, Sitting s) {
    Set<Integer> go = new TreeSet<>();
    for (int d = 0; d < deeds.size(); d++) {
      if (passes(p, d, s) && barsOf(p, d).isEmpty()) go.add(d);
    }
    return go;
  }

  private static Sitting behind(Paper p, Set<Integer> go) {
    return new Sitting(p.to, has(p.promised, 0), has(p.promised, 2) ? p.from : null, has(p.promised, 1) ? go : null);
  }

  int lets(int paper) {
    if (!isPaper(paper)) return BAD;
    if (papers.get(paper).from != sits.at) return NOT;
    return bits(letsGo(papers.get(paper), sits));
  }

  int barred(int paper, int deed) {
    if (!isPaper(paper) || !isDeed(deed)) return BAD;
    return bits(barsOf(papers.get(paper), deed));
  }

  int send(int paper) {
    if (!isPaper(paper)) return BAD;
    Paper p = papers.get(paper);
    if (p.from != sits.at) return NOT;
    Set<Integer> go = letsGo(p, sits);
    if (go.isEmpty()) return NONE;
    sits = behind(p, go);
    sent++;
    return bits(go);
  }

  private boolean mayBeTried(int deed, Sitting s) {
    return matches(deed, s.at, 0) != 0 && !deeds.get(deed).judged && s.boundTo(deed);
  }

  private Set<Integer> triedFor(Sitting s) {
    Set<Integer> found = new TreeSet<>();
    for (int d = 0; d < deeds.size(); d++) {
      if (mayBeTried(d, s)) found.add(d);
    }
    return found;
  }

  int tried() {
    return bits(triedFor(sits));
  }

  private record Walk(List<Integer> papers, Sitting end) { }

  /** All walks, the shorter ahead, of like ones by their papers; of those that end alike the first alone. */
  private List<Walk> walks() {
    List<Walk> all = new ArrayList<>();
    Set<Sitting> seen = new HashSet<>();
    all.add(new Walk(List.of(), sits));
    seen.add(sits);
    for (int i = 0; i < all.size(); i++) {
      Walk w = all.get(i);
      for (int p = 0; p < papers.size(); p++) {
        Set<Integer> go = letsGo(papers.get(p), w.end);
        if (go.isEmpty()) continue;
        Sitting then = behind(papers.get(p), go);
        if (seen.add(then)) {
          List<Integer> longer = new ArrayList<>(w.papers);
          longer.add(p);
          all.add(new Walk(longer, then));
        }
      }
    }
    return all;
  }

  int road(int land, int deed, int i) {
    if (!in(land, 0, 5) || !isDeed(deed) || i < -1) return BAD;
    for (Walk w : walks()) {
      if (w.end.at == land && mayBeTried(deed, w.end)) {
        if (i == -1) return w.papers.size();
        return i < w.papers.size() ? w.papers.get(i) : NONE;
      }
    }
    return NONE;
  }

  int lands() {
    Set<Integer> found = new TreeSet<>();
    for (Walk w : walks()) {
      found.add(w.end.at);
    }
    return bits(found);
  }

  int safe(int what) {
    if (!in(what, 0, 1)) return BAD;
    Set<Integer> found = new TreeSet<>();
    for (int land = 0; land < 6; land++) {
      Sitting there = new Sitting(land, false, null, null);
      boolean safe = what == 0 || triedFor(there).isEmpty();
      for (Paper p : papers) {
        safe = safe && letsGo(p, there).isEmpty();
      }
      if (safe) found.add(land);
    }
    return bits(found);
  }

  int demand(int land, int bits, int day) {
    if (!in(land, 0, 5) || bits == 0 || !in(day, 0, 99)) return BAD;
    for (int d = 0; d < 32; d++) {
      if (has(bits, d) && d >= deeds.size()) return BAD;
    }
    if (demands.size() == 8) return FULL;
    demands.add(new Demand(land, bits, day));
    return demands.size() - 1;
  }

  private Set<Integer> standing(Demand demand) {
    Set<Integer> go = new TreeSet<>();
    for (Paper p : papers) {
      if (p.to == demand.land) go.addAll(letsGo(p, sits));
    }
    go.removeIf(d -> !has(demand.deeds, d));
    return go;
  }

  private int greatestYears(Demand demand) {
    return standing(demand).stream().mapToInt(d -> yearsOf(d, demand.land, 0)).max().orElse(0);
  }

  private boolean home(Demand demand) {
    return standing(demand).stream().anyMatch(d -> deeds.get(d).land == demand.land);
  }

  int ahead(int i) {
    if (i < 0) return BAD;
    List<Integer> stand = new ArrayList<>();
    for (int d = 0; d < demands.size(); d++) {
      if (!standing(demands.get(d)).isEmpty()) stand.add(d);
    }
    stand.sort((a, b) -> {
      Demand x = demands.get(a), y = demands.get(b);
      if (greatestYears(x) != greatestYears(y)) return greatestYears(y) - greatestYears(x);
      if (home(x) != home(y)) return home(x) ? -1 : 1;
      return x.day != y.day ? x.day - y.day : a - b;
    });
    return i < stand.size() ? stand.get(i) : NONE;
  }

  int promises(int land, int deed) {
    if (!in(land, 0, 5) || !isDeed(deed)) return BAD;
    for (int bits : new int[] {0, 1, 2, 4, 3, 5, 6, 7}) {
      for (Paper p : papers) {
        if (p.to == land && p.promised == bits && letsGo(p, sits).contains(deed)) return bits;
      }
    }
    return NONE;
  }

  int mended(int land, int deed) {
    if (!in(land, 0, 5) || !isDeed(deed)) return BAD;
    int fewest = mend(land, deed, sits, 0, 0, 1000);
    return fewest == 1000 ? NONE : fewest;
  }

  /** Walks every road, with the papers that it has used; of one used again all BARS have fallen already. */
  private int mend(int land, int deed, Sitting s, int used, int fallen, int best) {
    if (fallen >= best) return best;
    int fewest = best;
    if (s.at == land && mayBeTried(deed, s)) fewest = fallen;
    for (int p = 0; p < papers.size(); p++) {
      Paper paper = papers.get(p);
      if (has(used, p) || !passes(paper, deed, s)) continue;
      Sitting then = behind(paper, Set.of(deed));
      fewest = mend(land, deed, then, used | 1 << p, fallen + barsOf(paper, deed).size(), fewest);
    }
    return fewest;
  }

  private boolean isSome(int land, int marks) {
    return crimes.stream().anyMatch(c -> c.land == land && c.are(marks));
  }

  int part(int a, int b, int what) {
    if (!in(a, 0, 5) || !in(b, 0, 5) || a == b || !in(what, 0, 1)) return BAD;
    List<Integer> found = new ArrayList<>();
    for (int marks = 1; marks < 64; marks++) {
      if (isSome(a, marks) != isSome(b, marks)) found.add(marks);
    }
    if (what == 1) return found.size();
    return found.isEmpty() ? NONE : found.get(0);
  }

  int image() {
    kept = new All(List.copyOf(crimes), List.copyOf(deeds), List.copyOf(papers), List.copyOf(demands), sits, of, year, sent);
    return 1;
  }

  int restore() {
    if (kept == null) return NONE;
    crimes = new ArrayList<>(kept.crimes);
    deeds = new ArrayList<>(kept.deeds);
    papers = new ArrayList<>(kept.papers);
    demands = new ArrayList<>(kept.demands);
    sits = kept.sits;
    of = kept.of;
    year = kept.year;
    sent = kept.sent;
    return 1;
  }

  int sheet(int sheet, int lane, int n) {
    if (!in(sheet, 0, 3) || !in(lane, 0, 2) || n > 16) return BAD;
    if (n < 0) return SIZE;
    sheets[sheet] = lane == 0 ? new byte[n] : lane == 1 ? new short[n] : new int[n];
    return n;
  }

  int drop(int sheet) {
    if (!in(sheet, 0, 3)) return BAD;
    if (sheets[sheet] == null) return NULL;
    int had = sizeOf(sheets[sheet]);
    sheets[sheet] = null;
    return had;
  }

  int item(int sheet, int lane, int i, int v) {
    if (!in(sheet, 0, 3) || !in(lane, 0, 2)) return BAD;
    Object row = sheets[sheet];
    if (row == null) return NULL;
    if (laneOf(row) != lane) return CAST;
    if (!in(i, 0, sizeOf(row) - 1)) return INDEX;
    if (row instanceof byte[] bytes) bytes[i] = (byte) v;
    if (row instanceof short[] shorts) shorts[i] = (short) v;
    if (row instanceof int[] ints) ints[i] = v;
    return 1;
  }
}
