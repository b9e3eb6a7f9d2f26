import java.util.Set;

/** A WORLD is a TEXT: what may stand at each place, each number's least and greatest, the FAULT of every other byte. */
public final class TextTest {
  private static final String CRIME = "A:bd-ce2..20!", PAPER = "F>Cy40ojpkht99+DSO", BOTH = "B>D*kt5+O;C:abf0..40;E:c1..1!";
  private static final Due due = new Due();

  public static void main(String[] args) {
    prefixes(CRIME, Set.of(11, 12, 13));
    prefixes(PAPER, Set.of(5, 6, 7, 8, 9, 10, 11, 13, 14, 16, 17, 18));
    for (String text : new String[] {CRIME, PAPER, BOTH}) {
      strangers(text);
      blanks(text);
      everyByteEverywhere(text);
    }
    leastYears();
    mostYears();
    papersYears();
    ages();
    farNumbers();
    marks();
    bars();
    promises();
    lands();
    clauses();
    twoFaults();
    tapeIsEmptyThen();
    due.end();
  }

  private static int read(String text) {
    return Due.world(new SentRoads(), text);
  }

  private static void is(String text, int want) {
    due.is("P8 '" + text + "'", read(text), want);
  }

  private static void fault(String text, int place) {
    is(text, -20 - place);
  }

  /** The end: how many bytes there are. */
  private static void prefixes(String text, Set<Integer> whole) {
    for (int length = 0; length <= text.length(); length++) {
      String piece = text.substring(0, length);
      if (whole.contains(length)) {
        is(piece, 1);
        fault(piece + ";", length + 1);
        is(piece + " ", 1);
      } else {
        fault(piece, length);
        fault(piece + "  ", length + 2);
        fault(piece + ";", length);
      }
    }
  }

  /** A byte that can stand nowhere, put in or put instead of another one. */
  private static void strangers(String text) {
    for (int place = 0; place <= text.length(); place++) {
      fault(text.substring(0, place) + "~" + text.substring(place), place);
      fault(text.substring(0, place) + " ~" + text.substring(place), place + 1);
      if (place < text.length()) {
        fault(text.substring(0, place) + "~" + text.substring(place + 1), place);
      }
    }
  }

  /** Blanks do not count, but end a number. */
  private static void blanks(String text) {
    int clauses = read(text);
    for (int place = 0; place <= text.length(); place++) {
      boolean inNumber = place > 0 && place < text.length()
          && Character.isDigit(text.charAt(place - 1)) && Character.isDigit(text.charAt(place));
      for (String blank : new String[] {" ", "   "}) {
        is(text.substring(0, place) + blank + text.substring(place), inNumber ? -20 - place - blank.length() : clauses);
      }
    }
  }

  /** Every byte at every place, put in and put instead, as the plain reader of the model reads it. */
  private static void everyByteEverywhere(String text) {
    for (int place = 0; place <= text.length(); place++) {
      for (char b = 32; b <= 126; b++) {
        String with = text.substring(0, place) + b + text.substring(place);
        is(with, new WorldText(with).read());
        if (place < text.length()) {
          String instead = text.substring(0, place) + b + text.substring(place + 1);
          is(instead, new WorldText(instead).read());
        }
      }
    }
  }

  /** LEAST 0 .. 40; it is its first byte that can't stand there. */
  private static void leastYears() {
    for (int least = 0; least <= 40; least++) {
      SentRoads x = new SentRoads();
      due.is("P8 LEAST " + least, Due.world(x, "A:a" + least + "..40"), 1);
      due.is("P9 LEAST " + least, x.crimeOf(0, 3), least);
    }
    for (int least : new int[] {41, 42, 49, 50, 99, 100, 400, 1000, 256, 65536}) {
      fault("A:a" + least + "..40", 3);
      fault("A:a" + least, 3);
      fault("A:a  " + least + " ..40", 5);
    }
  }

  /** MOST 1 .. 40, not below LEAST. */
  private static void mostYears() {
    for (int least = 0; least <= 40; least++) {
      String begin = "F:f" + least + "..";
      for (int most : new int[] {0, 1, least - 1, least, least + 1, 40, 41}) {
        if (most >= 1 && most >= least && most <= 40) {
          SentRoads x = new SentRoads();
          due.is("P8 " + begin + most, Due.world(x, begin + most), 1);
          due.is("P9 MOST " + most, x.crimeOf(0, 4), most);
        } else if (most >= 0) {
          fault(begin + most, begin.length());
          fault(begin + most + "!", begin.length());
        }
      }
    }
  }

  /** y 1 .. 40. */
  private static void papersYears() {
    for (int n = 1; n <= 40; n++) {
      SentRoads x = new SentRoads();
      due.is("P8 y" + n, Due.world(x, "A>By" + n), 1);
      due.is("P10 n " + n, x.paper(0, 3), n);
    }
    for (int n : new int[] {0, 41, 42, 50, 99, 100, 1000}) {
      fault("A>By" + n, 4);
      fault("A>B y " + n + "o", 6);
    }
  }

  /** AGE 1 .. 99. */
  private static void ages() {
    for (int age = 1; age <= 99; age++) {
      SentRoads x = new SentRoads();
      due.is("P8 t" + age, Due.world(x, "A>B*t" + age), 1);
      due.is("P10 AGE " + age, x.paper(0, 6), age);
    }
    for (int age : new int[] {0, 100, 101, 199, 1000}) {
      fault("A>B*t" + age, 5);
      fault("A>B*o t " + age + "+D", 8);
    }
    SentRoads x = Due.of("A>B*");
    due.is("P10 AGE 0: none", x.paper(0, 6), 0);
  }

  /** Numbers that wrap around to one that could stand there; 0s ahead change nothing. */
  private static void farNumbers() {
    String[] far = {"257", "65537", "2147483648", "4294967297", "4294967296", "18446744073709551617", "99999999999999999999999999",
      "10000000000000000000000000000000001", "1000"};
    for (String number : far) {
      fault("A:a" + number + "..40", 3);
      fault("A:a1.." + number, 6);
      fault("A>By" + number, 4);
      fault("A>B*t" + number, 5);
    }
    SentRoads x = Due.of("A:a000000000000000007..00000000000000000008;A>By009t0099");
    due.is("P8 7", x.crimeOf(0, 3), 7);
    due.is("P8 8", x.crimeOf(0, 4), 8);
    due.is("P8 9", x.paper(0, 3), 9);
    due.is("P8 99", x.paper(0, 6), 99);
    fault("A:a1..00", 6);
    fault("A>By00", 4);
    fault("A>B*t00", 5);
  }

  private static String letters(String all, int bits) {
    StringBuilder s = new StringBuilder();
    for (int i = 0; i < all.length(); i++) {
      s.append((bits >> i & 1) != 0 ? "" + all.charAt(i) : "");
    }
    return s.toString();
  }

  /** MUST, rising, one at least; BUT, rising, one at least behind -, none of MUST. */
  private static void marks() {
    for (int must = 1; must < 64; must++) {
      SentRoads x = new SentRoads();
      due.is("P8 MUST " + must, Due.world(x, "A:" + letters("abcdef", must) + "1..2"), 1);
      due.is("P9 MUST " + must, x.crimeOf(0, 1) * 100 + x.crimeOf(0, 2), must * 100);
      int but = 63 - must;
      if (but != 0) {
        due.is("P8 BUT " + but, Due.world(x, "A:" + letters("abcdef", must) + "-" + letters("abcdef", but) + "1..2"), 1);
        due.is("P9 BUT " + but, x.crimeOf(1, 1) * 100 + x.crimeOf(1, 2), must * 100 + but);
      }
    }
    for (char a = 'a'; a <= 'f'; a++) {
      for (char b = 'a'; b <= 'f'; b++) {
        if (b <= a) {
          fault("A:" + a + b + "1..2", 3);
          if (a != 'f') {
            fault("A:f-" + a + b + "1..2", 5);
          }
        }
        is("A:" + a + "-" + b + "1..2", a == b ? -24 : 1);
      }
    }
    fault("A:g1..2", 2);
    fault("A:A1..2", 2);
    fault("A:-a1..2", 2);
    fault("A:a-1..2", 4);
    fault("A:a-", 4);
  }

  /** Letters o j p k h, each once at most, in any order. */
  private static void bars() {
    String all = "ojpkh";
    for (int a = 0; a < 5; a++) {
      for (int b = 0; b < 5; b++) {
        for (int c = 0; c < 5; c++) {
          String three = "" + all.charAt(a) + all.charAt(b) + all.charAt(c);
          if (b == a) {
            fault("A>B*" + three, 5);
          } else if (c == a || c == b) {
            fault("A>B*" + three, 6);
          } else {
            SentRoads x = Due.of("A>B*" + three, "A>By9" + three);
            due.is("P10 BARS " + three, x.paper(0, 5) * 100 + x.paper(1, 5), (1 << a | 1 << b | 1 << c) * 101);
          }
        }
      }
    }
    due.is("P10 all five", Due.of("A>B*hkpjo").paper(0, 5), 31);
    due.is("P10 none", Due.of("A>B*").paper(0, 5), 0);
    for (int again = 0; again < 5; again++) {
      fault("A>B*hkpjo" + all.charAt(again), 9);
    }
    fault("A>B*O", 4);
    fault("A>B*t9o", 6);
    fault("A>B*+Do", 6);
  }

  /** D S O (rising as told here, one at least). */
  private static void promises() {
    for (int bits = 1; bits < 8; bits++) {
      SentRoads x = Due.of("A>B*+" + letters("DSO", bits));
      due.is("P10 PROMISED " + bits, x.paper(0, 7), bits);
    }
    String all = "DSO";
    for (int a = 0; a < 3; a++) {
      for (int b = 0; b <= a; b++) {
        fault("A>B*+" + all.charAt(a) + all.charAt(b), 6);
      }
    }
    fault("A>B*+DSOD", 8);
    fault("A>B*+DOS", 7);
    fault("A>B*+", 5);
    fault("A>B*+ ", 6);
    fault("A>B*+;A>B*", 5);
    fault("A>B*+o", 5);
    fault("A>B*+D+S", 6);
    due.is("P10 none", Due.of("A>B*").paper(0, 7), 0);
  }

  private static void lands() {
    for (char from = 'A'; from <= 'F'; from++) {
      for (char to = 'A'; to <= 'F'; to++) {
        is(from + ">" + to + "*", from == to ? -22 : 1);
      }
      fault(from + ">G*", 2);
      fault(from + ">@*", 2);
      fault(from + ">a*", 2);
    }
    fault("G>A*", 0);
    fault("@>A*", 0);
    fault("a>A*", 0);
    fault("G:a1..2", 0);
    fault("A<B*", 1);
    fault("A=a1..2", 1);
  }

  /** CLAUSES (1 to 12) with ; between. */
  private static void clauses() {
    StringBuilder text = new StringBuilder();
    for (int i = 1; i <= 12; i++) {
      text.append(i == 1 ? "" : ";").append(i % 2 == 0 ? "A>B*" : "A:a1..2");
      is(text.toString(), i);
      fault(text + ";", text.length() + (i < 12 ? 1 : 0));
      fault(text + ";;", text.length() + (i < 12 ? 1 : 0));
      fault(";" + text, 0);
    }
    fault(text + ";A>B*", text.length());
    fault(text + "  ; A>B*", text.length() + 2);
    fault(text + "A>B*", text.length());
    fault("A>B*,A>B*", 4);
    fault("A>B*A>B*", 4);
    fault("A:a1..2A:a1..2", 7);
  }

  /** The first byte that can't stand there: what comes behind it does not count. */
  private static void twoFaults() {
    fault("A:a41..0", 3);
    fault("A:ba41..0", 3);
    fault("A:a1..0;G", 6);
    fault("G:a41..0", 0);
    fault("A>A*oo", 2);
    fault("A>By0oo", 4);
    fault("A>B*oot0", 5);
    fault("A>B*t0+SD", 5);
    fault("A>B*+SD;G", 6);
    fault("A:ab-ab41..0", 5);
  }

  /** THE TAPE is empty then: behind a WORLD, a FAULT, FULL; what was FAULTY comes no more. */
  private static void tapeIsEmptyThen() {
    SentRoads x = new SentRoads();
    due.is("P8 a WORLD", Due.world(x, "A>B*"), 1);
    due.is("P8 nothing more", x.world(), -20);
    due.is("P15 one paper", x.count(2), 1);
    due.is("P8 a FAULT", Due.world(x, "A>B*;A>"), -27);
    due.is("P8 nothing more", x.world(), -20);
    due.is("P15 none of its papers", x.count(2), 1);
    due.is("P7 from the start", x.type(0x41, 1), 1);
    due.is("P8 the end of 1", x.world(), -21);
    due.is("P8 11 papers more", Due.world(x, "A>B*;A>B*;A>B*;A>B*;A>B*;A>B*;A>B*;A>B*;A>B*;A>B*;A>B*"), 11);
    due.is("P8 FULL", Due.world(x, "C:a1..2;A>B*"), SentRoads.FULL);
    due.is("P8 nothing more", x.world(), -20);
    due.is("P15 none of its CRIMES", x.count(0), 0);
    due.is("P8 a shorter text behind a longer one", Due.world(x, "C:a"), -23);
  }
}
