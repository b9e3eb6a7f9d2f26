import java.lang.reflect.Method;
import java.lang.reflect.Modifier;
import java.nio.file.Files;
import java.nio.file.Path;
import java.util.regex.Matcher;
import java.util.regex.Pattern;

/** What README.md shows is what the class answers, and README.md names every call with all its arguments. */
public final class ReadmeTest {
  private static final Pattern CALL = Pattern.compile("(?m)^x\\.(\\w+)\\(([^)]*)\\); *// (-?\\d+):");
  private static final Pattern TEXT = Pattern.compile("(?m)^ {4}(A:\\S+)$");
  private static final Due due = new Due();

  public static void main(String[] args) throws Exception {
    String page = Files.readString(readme(args));
    SentRoads shown = example(page);
    text(page, shown);
    names(page);
    due.end();
  }

  /** The script hands over the class's own path; README.md stands three folders above its own. */
  private static Path readme(String[] args) {
    Path root = args.length > 0 ? Path.of(args[0]).toAbsolutePath().getParent().resolve("../../..") : Path.of("");
    return root.resolve("README.md");
  }

  private static Method named(String name) {
    for (Method m : SentRoads.class.getDeclaredMethods()) {
      if (Modifier.isPublic(m.getModifiers()) && m.getName().equals(name)) {
        return m;
      }
    }
    throw new IllegalStateException("README.md calls " + name + ", which the class has not");
  }

  private static Object argument(Class<?> type, String told) {
    if (type == boolean.class) {
      return Boolean.valueOf(told);
    }
    if (type == long.class) {
      return Long.valueOf(told);
    }
    return Integer.valueOf(told);
  }

  private static SentRoads example(String page) throws Exception {
    SentRoads x = new SentRoads();
    Matcher line = CALL.matcher(page);
    int lines = 0;
    while (line.find()) {
      Method call = named(line.group(1));
      String[] told = line.group(2).isEmpty() ? new String[0] : line.group(2).split(", *");
      Object[] arguments = new Object[told.length];
      for (int i = 0; i < told.length; i++) {
        arguments[i] = argument(call.getParameterTypes()[i], told[i]);
      }
      due.is("README " + line.group(), (Integer) call.invoke(x, arguments), Integer.parseInt(line.group(3)));
      lines++;
    }
    due.is("README: every line of the example tells its answer", lines, page.split("(?m)^x\\.", -1).length - 1);
    due.is("README has an example", lines > 0 ? 1 : 0, 1);
    return x;
  }

  /** The text makes the CRIMES and the paper of the example. */
  private static void text(String page, SentRoads shown) {
    Matcher line = TEXT.matcher(page);
    due.is("README has a text", line.find() ? 1 : 0, 1);
    SentRoads x = Due.of(line.group(1));
    for (int what = 0; what < 3; what += 2) {
      due.is("README's text: count(" + what + ")", x.count(what), shown.count(what));
    }
    for (int c = 0; c < shown.count(0); c++) {
      for (int what = 0; what < 6; what++) {
        due.is("README's text: crimeOf(" + c + ", " + what + ")", x.crimeOf(c, what), shown.crimeOf(c, what));
      }
    }
    for (int p = 0; p < shown.count(2); p++) {
      for (int what = 0; what < 8; what++) {
        due.is("README's text: paper(" + p + ", " + what + ")", x.paper(p, what), shown.paper(p, what));
      }
    }
  }

  private static void names(String page) {
    for (Method m : SentRoads.class.getDeclaredMethods()) {
      if (Modifier.isPublic(m.getModifiers())) {
        Matcher call = Pattern.compile("(?m)^\\|.*?`" + m.getName() + "\\(([^)]*)\\)`").matcher(page);
        boolean is = call.find();
        due.is("README names " + m.getName(), is ? 1 : 0, 1);
        int arguments = !is || call.group(1).isEmpty() ? 0 : call.group(1).split(",").length;
        due.is("README: arguments of " + m.getName(), arguments, m.getParameterCount());
      }
    }
  }
}
