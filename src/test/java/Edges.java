import java.util.List;
import java.util.TreeSet;
import java.util.function.Supplier;

/** One call with arguments that are fine, and how far each of them may go. Each call is made on a new object. */
final class Edges {
  interface Call {
    int of(SentRoads x, int[] args);
  }

  private final Due due;
  private final String name;
  private final Supplier<SentRoads> maker;
  private final Call call;
  private final int[] fine;
  private final List<Integer> now, kept;

  Edges(Due due, String name, Supplier<SentRoads> maker, Call call, int... fine) {
    this.due = due;
    this.name = name;
    this.maker = maker;
    this.call = call;
    this.fine = fine;
    now = Probe.now(maker.get());
    kept = Probe.kept(maker.get());
  }

  private int[] with(int arg, int v) {
    int[] args = fine.clone();
    args[arg] = v;
    return args;
  }

  private static String told(String name, int[] args) {
    StringBuilder s = new StringBuilder(name).append('(');
    for (int i = 0; i < args.length; i++) {
      s.append(i == 0 ? "" : ", ").append(args[i]);
    }
    return s.append(')').toString();
  }

  /** What is due with these arguments. */
  Edges is(int want, int... args) {
    due.is(told(name, args), call.of(maker.get(), args), want);
    return this;
  }

  /** What is due, if one argument is another one. */
  Edges at(int arg, int v, int want) {
    return is(want, with(arg, v));
  }

  /** Refused, and nothing has changed. */
  Edges refuses(int want, int... args) {
    String told = told(name, args);
    SentRoads x = maker.get();
    due.is(told, call.of(x, args), want);
    due.is(told + " changed something", Probe.now(x).equals(now) ? 0 : 1, 0);
    SentRoads y = maker.get();
    call.of(y, args);
    due.is(told + " changed the IMAGE", Probe.kept(y).equals(kept) ? 0 : 1, 0);
    return this;
  }

  /** An argument from the least to the greatest, with what is due at these two; others are BAD. */
  Edges range(int arg, int least, int greatest, int dueLeast, int dueGreatest) {
    return range(arg, least, greatest, dueLeast, dueGreatest, SentRoads.BAD, SentRoads.BAD);
  }

  Edges range(int arg, int least, int greatest, int dueLeast, int dueGreatest, int below, int above) {
    at(arg, least, dueLeast);
    at(arg, greatest, dueGreatest);
    outside(arg, least, greatest, below, above);
    return this;
  }

  /** Numbers just outside, and far ones that a byte, a short or a shift would take for one inside. */
  Edges outside(int arg, int least, int greatest, int below, int above) {
    TreeSet<Integer> values = new TreeSet<>();
    for (int v : new int[] {least - 1, greatest + 1, Integer.MIN_VALUE, Integer.MAX_VALUE, ~least, ~greatest, -greatest}) {
      values.add(v);
    }
    for (int bit = 3; bit < 32; bit++) {
      values.add(least + (1 << bit));
      values.add(greatest - (1 << bit));
    }
    for (int v : values) {
      if (v < least) {
        refuses(below, with(arg, v));
      } else if (v > greatest) {
        refuses(above, with(arg, v));
      }
    }
    return this;
  }
}
