import java.math.BigInteger;
import java.util.ArrayList;
import java.util.List;

/** A WORLD's text for the model: cut into tokens first, then read; the first FAULT is thrown. */
final class WorldText {
  private record Token(String text, int place) { }

  private static final class Fault extends RuntimeException {
    private static final long serialVersionUID = 1L;
    final int place;

    Fault(int place) {
      this.place = place;
    }
  }

  final List<Model.Crime> crimes = new ArrayList<>();
  final List<Model.Paper> papers = new ArrayList<>();
  private final List<Token> tokens = new ArrayList<>();
  private int next = 0;

  WorldText(String text) {
    for (int i = 0; i < text.length(); ) {
      int end = i + 1;
      while (Character.isDigit(text.charAt(i)) && end < text.length() && Character.isDigit(text.charAt(end))) {
        end++;
      }
      if (text.charAt(i) != ' ') {
        tokens.add(new Token(text.substring(i, end), i));
      }
      i = end;
    }
    tokens.add(new Token("", text.length()));
  }

  int read() {
    try {
      int clauses = 1;
      clause();
      while (is(";") && clauses < 12) {
        next++;
        clause();
        clauses++;
      }
      if (!is("")) throw new Fault(here().place);
      return clauses;
    } catch (Fault f) {
      return -20 - f.place;
    }
  }

  private Token here() {
    return tokens.get(next);
  }

  private boolean is(String text) {
    return here().text.equals(text);
  }

  private boolean isOneOf(String signs) {
    return here().text.length() == 1 && signs.contains(here().text);
  }

  private String take(String signs) {
    if (!isOneOf(signs)) throw new Fault(here().place);
    return tokens.get(next++).text;
  }

  private int number(int least, int most) {
    Token t = here();
    if (t.text.isEmpty() || !Character.isDigit(t.text.charAt(0))) throw new Fault(t.place);
    BigInteger v = new BigInteger(t.text);
    if (v.compareTo(BigInteger.valueOf(least)) < 0 || v.compareTo(BigInteger.valueOf(most)) > 0) throw new Fault(t.place);
    next++;
    return v.intValue();
  }

  private int marks(int not) {
    int bits = 0;
    String allowed = "abcdef";
    do {
      int mark = "abcdef".indexOf(take(allowed));
      if (Model.has(not, mark)) throw new Fault(tokens.get(next - 1).place);
      bits += 1 << mark;
      allowed = "abcdef".substring(mark + 1);
    } while (isOneOf("abcdef"));
    return bits;
  }

  private void clause() {
    int land = "ABCDEF".indexOf(take("ABCDEF"));
    if (take(":>").equals(":")) {
      crime(land);
    } else {
      paper(land);
    }
  }

  private void crime(int land) {
    int must = marks(0);
    int but = 0;
    if (is("-")) {
      next++;
      but = marks(must);
    }
    int least = number(0, 40);
    take(".");
    take(".");
    int most = number(Math.max(least, 1), 40);
    boolean death = is("!");
    if (death) next++;
    crimes.add(new Model.Crime(land, must, but, least, most, death));
  }

  private void paper(int from) {
    int to = "ABCDEF".indexOf(take("ABCDEF".replace("" + "ABCDEF".charAt(from), "")));
    int kind = take("y*").equals("y") ? 0 : 2;
    int n = kind == 0 ? number(1, 40) : 1;
    int bars = 0;
    while (isOneOf("ojpkh")) {
      int bar = "ojpkh".indexOf(here().text);
      if (Model.has(bars, bar)) throw new Fault(here().place);
      bars += 1 << bar;
      next++;
    }
    int age = 0;
    if (is("t")) {
      next++;
      age = number(1, 99);
    }
    int promised = 0;
    if (is("+")) {
      next++;
      String allowed = "DSO";
      do {
        int letter = "DSO".indexOf(take(allowed));
        promised += 1 << letter;
        allowed = "DSO".substring(letter + 1);
      } while (isOneOf("DSO"));
    }
    papers.add(new Model.Paper(kind, from, to, n, 0, bars, age, promised));
  }
}
