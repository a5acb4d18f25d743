import java.nio.charset.StandardCharsets;
import java.util.Random;

/** Texts for the tests: brought onto a tape, and made by chance (always the same chance). */
final class Texts {
  private Texts() {}

  /** The numbers by which a text is fed, five a feed. */
  static int[][] feeds(String text) {
    byte[] bytes = text.getBytes(StandardCharsets.ISO_8859_1);
    int[][] all = new int[(bytes.length + 19) / 20][5];
    for (int k = 0; k < bytes.length; k++) {
      all[k / 20][k % 20 / 4] |= (bytes[k] & 255) << (24 - k % 4 * 8);
    }
    return all;
  }

  /** The text stands behind what the tape has. */
  static void tell(DoughBorder x, String text) {
    int begin = x.count(12);
    for (int[] f : feeds(text)) x.feed(f[0], f[1], f[2], f[3], f[4]);
    x.end(begin + text.length());
  }

  static int strip(DoughBorder x, String text) {
    tell(x, text);
    return x.strip();
  }

  static int rule(DoughBorder x, String text) {
    tell(x, text);
    return x.rule();
  }

  private static final String[] WORDS = {"mile", "line", "dough", "salt", "damp", "warm", "night", "above",
      "below", "west", "east", "crust"};
  private static final String[] SIGNS = {"<", "<=", "=", ">=", ">"};

  static String someStrip(Random r) {
    int miles = r.nextInt(4) == 0 ? 2 + r.nextInt(9) : 2 + r.nextInt(4);
    StringBuilder s = new StringBuilder("strip " + miles + " " + r.nextInt(4));
    int villages = 0;
    int clauses = r.nextInt(14);
    for (int k = 0; k < clauses; k++) {
      s.append(r.nextInt(6) == 0 ? " ; " : ";");
      int kind = r.nextInt(10);
      if (kind < 3) {
        s.append("mile ").append(r.nextInt(miles)).append(' ').append(near(r)).append(' ')
            .append(r.nextInt(100)).append(' ').append(r.nextInt(r.nextInt(3) == 0 ? 10 : 4));
      } else if (kind < 5) {
        int a = r.nextInt(r.nextInt(3) == 0 ? 100 : 20);
        s.append("warm ").append(a).append(' ').append(a + r.nextInt(100 - a)).append(' ')
            .append(1 + r.nextInt(9));
      } else if (kind < 6) {
        s.append("baked ").append(r.nextInt(miles));
      } else if (kind < 9 || villages == 0) {
        s.append("village ").append(r.nextInt(miles)).append(' ').append(near(r)).append(' ')
            .append(r.nextInt(2));
        villages++;
      } else {
        s.append("want ").append(r.nextInt(villages)).append(' ').append(r.nextInt(2));
      }
    }
    return s.toString();
  }

  private static int near(Random r) {
    return r.nextInt(4) == 0 ? r.nextInt(41) : 15 + r.nextInt(11);
  }

  static String someRule(Random r) {
    StringBuilder s = new StringBuilder();
    int clauses = 1 + r.nextInt(r.nextInt(8) == 0 ? 13 : 4);
    for (int k = 0; k < clauses; k++) {
      if (k > 0) s.append(';');
      s.append("creep ").append(someSum(r));
      if (r.nextInt(3) > 0) s.append(" if ").append(someTest(r, r.nextInt(12)));
    }
    return s.toString();
  }

  private static String someSum(Random r) {
    StringBuilder s = new StringBuilder(someValue(r));
    for (int k = r.nextInt(4); k > 0; k--) s.append(blank(r)).append("+-*/%".charAt(r.nextInt(5))).append(blank(r)).append(someValue(r));
    return s.toString();
  }

  private static String blank(Random r) {
    return r.nextInt(5) == 0 ? " " : "";
  }

  private static String someValue(Random r) {
    if (r.nextInt(3) > 0) return WORDS[r.nextInt(WORDS.length)];
    return "" + (r.nextInt(12) == 0 ? r.nextInt(100000) : r.nextInt(6));
  }

  private static String someTest(Random r, int depth) {
    StringBuilder s = new StringBuilder(someFact(r, depth));
    while (r.nextInt(3) == 0) s.append(r.nextBoolean() ? " and " : " or ").append(someFact(r, depth));
    return s.toString();
  }

  private static String someFact(Random r, int depth) {
    int kind = depth > 0 ? r.nextInt(3) : 2;
    if (kind == 0) return "not " + someFact(r, depth - 1);
    if (kind == 1) return "[" + someTest(r, depth - 1) + "]";
    return someSum(r) + blank(r) + SIGNS[r.nextInt(SIGNS.length)] + blank(r) + someSum(r);
  }

  /** A text with some of its bytes gone, changed, doubled, or words and numbers put in. */
  static String spoilt(String text, Random r) {
    StringBuilder s = new StringBuilder(text);
    for (int k = 1 + r.nextInt(2); k > 0 && s.length() > 0; k--) {
      int at = r.nextInt(s.length());
      switch (r.nextInt(7)) {
        case 0: s.deleteCharAt(at); break;
        case 1: s.setCharAt(at, (char) r.nextInt(256)); break;
        case 2: s.insert(at, "0123456789;[]<=> +-*/%".charAt(r.nextInt(22))); break;
        case 3: s.setLength(at); break;
        case 4: s.insert(at, new String[] {" not ", " strip ", " creep ", " 100000 ", " 00000 ", "village ",
            "want ", " if ", " and ", "[", "]", "  "}[r.nextInt(12)]); break;
        case 5: s.append(s.substring(at)); break;
        default: s.insert(at, s.substring(0, Math.min(at, 20))); break;
      }
    }
    return s.toString();
  }

  static String cut(String text) {
    return text.length() > 400 ? text.substring(0, 400) : text;
  }
}
