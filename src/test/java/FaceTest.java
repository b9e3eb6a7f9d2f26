import java.io.IOException;
import java.lang.reflect.Array;
import java.lang.reflect.Constructor;
import java.lang.reflect.Field;
import java.lang.reflect.Method;
import java.lang.reflect.Modifier;
import java.nio.file.Files;
import java.nio.file.Path;
import java.util.ArrayDeque;
import java.util.ArrayList;
import java.util.Arrays;
import java.util.Collections;
import java.util.Deque;
import java.util.HashSet;
import java.util.IdentityHashMap;
import java.util.List;
import java.util.Set;
import java.util.TreeSet;
import java.util.regex.Matcher;
import java.util.regex.Pattern;

/** The public face of the document, and the rules of the language that a compiled class or its text shows. */
public final class FaceTest {
  private static final String[] METHODS = {
    "crime(int,int,int,int,int,boolean)", "deed(int,int,int,int)", "years(int,int,int,int,int,int)",
    "named(int,int,int,int,int,int)", "custom(int,int,int,int,int)", "type(long,int)", "world()", "crimeOf(int,int)",
    "paper(int,int)", "bars(int,int)", "matches(int,int,int)", "yearsOf(int,int,int)", "shows(int,int,int,int)",
    "count(int)", "man(int,int)", "judged(int,boolean)", "bound(int)", "covers(int)", "lets(int)", "barred(int,int)",
    "send(int)", "tried()", "road(int,int,int)", "lands()", "safe(int)", "demand(int,int,int)", "ahead(int)",
    "promises(int,int)", "mended(int,int)", "part(int,int,int)", "image()", "restore()", "sheet(int,int,int)",
    "drop(int)", "item(int,int,int,int)",
  };
  private static final String[] CONSTANTS = {"BAD", "NOT", "FULL", "NONE", "NULL", "CAST", "INDEX", "SIZE"};
  private static final int[] VALUES = {-1, -2, -3, -4, -11, -12, -13, -14};
  private static final Due due = new Due();

  public static void main(String[] args) throws Exception {
    face();
    inside();
    room();
    if (args.length > 0) {
      text(Path.of(args[0]));
    }
    due.end();
  }

  private static String shape(Method m) {
    StringBuilder s = new StringBuilder(m.getName()).append('(');
    for (Class<?> p : m.getParameterTypes()) {
      s.append(s.charAt(s.length() - 1) == '(' ? "" : ",").append(p.getName());
    }
    return s.append(')').toString();
  }

  private static void face() throws Exception {
    Class<?> c = SentRoads.class;
    due.is("public final", c.getModifiers() & (Modifier.PUBLIC | Modifier.FINAL), Modifier.PUBLIC | Modifier.FINAL);
    due.is("no package", c.getPackageName().length(), 0);
    Set<String> found = new TreeSet<>();
    for (Method m : c.getDeclaredMethods()) {
      if (!Modifier.isPrivate(m.getModifiers())) {
        found.add(shape(m));
        due.is(m + " is public, no static", m.getModifiers(), Modifier.PUBLIC);
        due.is(m + " answers an int", m.getReturnType() == int.class ? 1 : 0, 1);
      }
    }
    due.is("the methods are those of the document: " + found, found.equals(new TreeSet<>(Arrays.asList(METHODS))) ? 1 : 0, 1);
    Constructor<?>[] made = c.getDeclaredConstructors();
    due.is("one constructor", made.length, 1);
    due.is("public", made[0].getModifiers(), Modifier.PUBLIC);
    due.is("without arguments", made[0].getParameterCount(), 0);
    int open = 0;
    for (Field f : c.getDeclaredFields()) {
      open += Modifier.isPrivate(f.getModifiers()) ? 0 : 1;
    }
    due.is("constants", open, CONSTANTS.length);
    for (int i = 0; i < CONSTANTS.length; i++) {
      due.is(CONSTANTS[i], c.getField(CONSTANTS[i]).getInt(null), VALUES[i]);
    }
  }

  private static void inside() {
    Set<String> names = new HashSet<>();
    for (String m : METHODS) {
      names.add(m.substring(0, m.indexOf('(')));
    }
    due.is("rule 11: classes", Math.min(12, SentRoads.class.getDeclaredClasses().length + 1), SentRoads.class.getDeclaredClasses().length + 1);
    for (Class<?> c : SentRoads.class.getDeclaredClasses()) {
      due.is("rule 1: " + c + " is static", Modifier.isStatic(c.getModifiers()) ? 1 : 0, 1);
      for (Method m : c.getDeclaredMethods()) {
        due.is("rule 1: the name of " + m, names.contains(m.getName()) ? 1 : 0, 0);
      }
      limits(c);
    }
    for (Method m : SentRoads.class.getDeclaredMethods()) {
      due.is("rule 1: the name of " + m, Modifier.isPrivate(m.getModifiers()) && names.contains(m.getName()) ? 1 : 0, 0);
    }
    limits(SentRoads.class);
  }

  private static void limits(Class<?> c) {
    int fields = 0;
    for (Field f : c.getDeclaredFields()) {
      if (Modifier.isStatic(f.getModifiers())) {
        due.is("rule 5: " + f + " is final", Modifier.isFinal(f.getModifiers()) ? 1 : 0, 1);
      } else {
        fields++;
      }
    }
    due.is("rule 11: fields of " + c, Math.min(20, fields), fields);
    for (Method m : c.getDeclaredMethods()) {
      due.is("rule 11: parameters of " + m, Math.min(7, m.getParameterCount()), m.getParameterCount());
    }
  }

  /** Rule 12: an object is small (a run has room for 7.3 million fields and elements), and no call makes it grow. */
  private static void room() throws Exception {
    int[] made = held(new SentRoads());
    due.is("rule 12: objects and arrays of one object, " + made[0], Math.min(300, made[0]), made[0]);
    due.is("rule 12: its fields and elements, " + made[1], Math.min(14000, made[1]), made[1]);
    for (SentRoads used : new SentRoads[] {Fixture.rich(), Fixture.full()}) {
      int[] after = held(used);
      due.is("rule 12: objects and arrays behind many calls", after[0], made[0]);
      due.is("rule 12: fields and elements behind many calls", after[1], made[1]);
    }
  }

  /** How many objects and arrays hang on an object (itself, too), and how many fields and elements these have. */
  private static int[] held(Object root) throws Exception {
    Set<Object> seen = Collections.newSetFromMap(new IdentityHashMap<>());
    Deque<Object> open = new ArrayDeque<>();
    open.add(root);
    seen.add(root);
    int slots = 0;
    while (!open.isEmpty()) {
      Object o = open.remove();
      List<Object> parts = new ArrayList<>();
      if (o.getClass().isArray()) {
        slots += Array.getLength(o);
        parts.addAll(o instanceof Object[] row ? Arrays.asList(row) : List.of());
      } else {
        for (Field f : o.getClass().getDeclaredFields()) {
          if (!Modifier.isStatic(f.getModifiers())) {
            slots++;
            f.setAccessible(true);
            parts.add(f.getType().isPrimitive() ? null : f.get(o));
          }
        }
      }
      for (Object part : parts) {
        if (part != null && seen.add(part)) {
          open.add(part);
        }
      }
    }
    return new int[] {seen.size(), slots};
  }

  private static void text(Path file) throws IOException {
    String source = Files.readString(file).replaceAll("(?s)/\\*.*?\\*/", "").replaceAll("//[^\n]*", "");
    for (String word : new String[] {"throw", "throws", "try", "catch", "synchronized", "assert", "package", "yield", "native", "volatile"}) {
      due.is("rule 6: " + word, Pattern.compile("\\b" + word + "\\b").matcher(source).find() ? 1 : 0, 0);
    }
    for (String sign : new String[] {"->", "::", "Exact", "hashCode", "toString", "System.", "Random", "Thread", "@"}) {
      due.is("rules 2, 4, 6, 13: " + sign, source.contains(sign) ? 1 : 0, 0);
    }
    Matcher imports = Pattern.compile("import ([^;]*);").matcher(source);
    while (imports.find()) {
      String name = imports.group(1);
      due.is("rule 4: import " + name, Set.of("java.util.Arrays", "java.util.ArrayList", "java.util.List", "java.util.Iterator").contains(name) ? 1 : 0, 1);
    }
    for (char c : source.toCharArray()) {
      if (c > 126) {
        due.is("rule 4: sign " + (int) c, 1, 0);
      }
    }
    lengths(source);
  }

  /** A method begins with its name at an indent of 2 or 4 and ends at the brace of the same indent. */
  private static void lengths(String source) {
    String[] lines = source.split("\n");
    for (int i = 0; i < lines.length; i++) {
      Matcher begin = Pattern.compile("^( {2}| {4})(?!if|for|while|switch)\\w[\\w\\[\\] ]*\\([^;]*\\{$").matcher(lines[i]);
      if (!begin.find() || lines[i].contains(" class ")) {
        continue;
      }
      int end = i;
      while (end < lines.length && !lines[end].equals(begin.group(1) + "}")) {
        end++;
      }
      due.is("rule 11: lines of " + lines[i].trim(), Math.min(60, end - i + 1), end - i + 1);
    }
  }
}
