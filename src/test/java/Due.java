/** Counts the answers that are not the ones that are due, and prints each of them. */
final class Due {
  private int wrong = 0;
  private int asked = 0;

  void is(String call, long got, long want) {
    asked++;
    if (got != want) {
      wrong++;
      System.out.println(call + " answered " + got + ", due is " + want);
    }
  }

  /** Ends the test: with exit code 1, if an answer was wrong. */
  void end() {
    System.out.println(asked + " answers, " + wrong + " not as due");
    if (wrong != 0 || asked == 0) {
      System.exit(1);
    }
  }

  /** Types a text on THE TAPE, in pieces of up to 8 bytes. */
  static void type(SentRoads x, String text) {
    for (int i = 0; i < text.length(); i += 8) {
      String piece = text.substring(i, Math.min(text.length(), i + 8));
      long w = 0;
      for (int k = 0; k < piece.length(); k++) {
        w = w << 8 | piece.charAt(k);
      }
      x.type(w, piece.length());
    }
  }

  static int world(SentRoads x, String text) {
    type(x, text);
    return x.world();
  }

  /** A new object with the CRIMES and papers of a text. */
  static SentRoads of(String... texts) {
    SentRoads x = new SentRoads();
    for (String text : texts) {
      int clauses = world(x, text);
      if (clauses < 0) {
        throw new IllegalStateException("the test's own world '" + text + "' is refused: " + clauses);
      }
    }
    return x;
  }
}
