import java.util.ArrayList;
import java.util.List;

/**
 * All that can be found out about an object by asking it. Two objects that answer alike hold the same. The asking
 * uses the object up: it is not to be asked anything else afterwards.
 */
final class Probe {
  private final SentRoads x;
  private final List<Integer> answers = new ArrayList<>();
  private final int crimes, deeds, papers, demands;

  private Probe(SentRoads x) {
    this.x = x;
    crimes = x.count(0);
    deeds = x.count(1);
    papers = x.count(2);
    demands = x.count(3);
  }

  /** What it holds now, SHEETS and THE TAPE, too. */
  static List<Integer> now(SentRoads x) {
    Probe p = new Probe(x);
    p.told();
    p.man();
    p.sheets();
    p.tape();
    return p.answers;
  }

  /** What its IMAGE holds. */
  static List<Integer> kept(SentRoads x) {
    int restored = x.restore();
    Probe p = new Probe(x);
    p.add(restored);
    p.told();
    p.man();
    return p.answers;
  }

  private void add(int answer) {
    answers.add(answer);
  }

  private void told() {
    for (int what = 0; what < 5; what++) {
      add(x.count(what));
    }
    for (int c = 0; c < crimes; c++) {
      for (int what = 0; what < 6; what++) {
        add(x.crimeOf(c, what));
      }
    }
    for (int p = 0; p < papers; p++) {
      for (int what = 0; what < 8; what++) {
        add(x.paper(p, what));
      }
      add(x.barred(p, deeds == 0 ? 0 : p % deeds));
    }
    for (int d = 0; d < deeds; d++) {
      for (int land = 0; land < 6; land++) {
        add(x.matches(d, land, 0));
      }
      add(x.matches(d, d % 6, 1));
      add(x.yearsOf(d, d % 6, 0));
      add(x.yearsOf(d, d % 6, 1));
    }
  }

  private void man() {
    for (int what = 0; what < 4; what++) {
      add(x.bound(what));
    }
    add(x.tried());
    add(x.lands());
    add(x.safe(0));
    for (int i = 0; i <= demands; i++) {
      add(x.ahead(i));
    }
    add(x.man(0, 0));
    add(x.man(2, 0));
    for (int d = 0; d < deeds; d++) {
      add(x.judged(d, false));
    }
  }

  /** `shows` answers what an earlier one put there, so items are read one call later. */
  private void sheets() {
    for (int s = 0; s < 4; s++) {
      for (int lane = 0; lane < 3; lane++) {
        add(x.shows(0, s, lane, 0));
        add(x.shows(0, s, lane, 2));
        add(x.shows(0, s, lane, 10));
      }
      add(x.drop(s));
    }
    for (int d = 0; d < deeds; d++) {
      x.sheet(0, 0, 6);
      add(x.shows(d, 0, 0, 0));
    }
  }

  /** A digit and ! end a CRIME that is not all there yet. */
  private void tape() {
    add(x.type(0x37, 1));
    add(x.type(0x21, 1));
    add(x.world());
    for (int what = 0; what < 6; what++) {
      add(x.crimeOf(crimes, what));
    }
    add(x.world());
  }
}
