import java.util.function.Supplier;
import java.util.function.ToIntFunction;

/** What the tests of edges share: a sentence of the document, the rows that hold it, and objects to try it on. */
abstract class Checks {
  private static int wrong = 0;
  private static int rows = 1;
  private static String sentence = "";

  /** From here on rows belong to this sentence of the document; one without rows is a fault of the test. */
  static void says(String words) {
    countRows();
    sentence = words;
    rows = 0;
  }

  private static void countRows() {
    if (rows == 0) {
      wrong++;
      System.out.println("no row for: " + sentence);
    }
  }

  static void due(String call, int got, int want) {
    rows++;
    if (got != want) {
      wrong++;
      System.out.println(sentence + "\n  " + call + " answered " + got + ", due is " + want);
    }
  }

  static void due(String call, boolean got, boolean want) {
    due(call, got ? 1 : 0, want ? 1 : 0);
  }

  static void alike(String call, String got, String want) {
    rows++;
    if (!got.equals(want)) {
      wrong++;
      System.out.println(sentence + "\n  behind " + call + " there is " + got + "\n  due is " + want);
    }
  }

  static void finish() {
    countRows();
    System.out.println(wrong == 0 ? "all edges hold" : wrong + " edges don't hold");
    if (wrong != 0) System.exit(1);
  }

  /** What strip and rule answer to a fault. */
  static int fault(int place, int kind) {
    return -2 - (1 + 8 * place + kind);
  }

  static DoughBorder border(String strip) {
    DoughBorder x = new DoughBorder();
    int got = Texts.strip(x, strip);
    if (got < 0) due("'" + strip + "'", got, 0);
    return x;
  }

  static DoughBorder border(String strip, String rule) {
    DoughBorder x = border(strip);
    due("'" + rule + "'", Texts.rule(x, rule), 0);
    due("force 0", x.force(0), -1);
    return x;
  }

  static void lines(String call, DoughBorder x, int... want) {
    for (int m = 0; m < want.length; m++) due(call + ": line of mile " + m, x.mile(m, 0), want[m]);
  }

  static void doughs(String call, DoughBorder x, int... want) {
    for (int m = 0; m < want.length; m++) due(call + ": dough of mile " + m, x.mile(m, 1), want[m]);
  }

  static void counts(String call, DoughBorder x, int... want) {
    for (int k = 0; k < want.length; k++) due(call + ": count " + k, x.count(k), want[k]);
  }

  /** All that can be seen without a change. */
  static String seen(DoughBorder x) {
    StringBuilder s = new StringBuilder();
    for (int k = 0; k <= 12; k++) s.append(x.count(k)).append(k < 12 ? "," : ";");
    for (int m = 0; m < x.count(0); m++) {
      for (int k = 0; k <= 4; k++) s.append(x.mile(m, k)).append(k < 4 ? "," : ";");
    }
    for (int v = 0; v < x.count(2); v++) {
      for (int k = 0; k <= 4; k++) s.append(x.village(v, k)).append(k < 4 ? "," : ";");
    }
    return s.toString();
  }

  /** All that an object can still show: itself, its logs, what can be undone, its images, and at last its tape. */
  static String all(DoughBorder x) {
    StringBuilder s = new StringBuilder(seen(x));
    s.append(" next ").append(x.ahead(0, 1, 0)).append(' ').append(x.ahead(0, 1, 1));
    s.append(" thefts");
    for (int k = 0; k <= 2; k++) s.append(' ').append(x.theft(5, k));
    while (x.count(10) > 0) {
      s.append(" undone ").append(x.undo());
      for (int m = 0; m < x.count(0); m++) {
        for (int k = 0; k <= 3; k++) s.append(' ').append(x.mile(m, k));
      }
      s.append(' ').append(x.count(6)).append(' ').append(x.count(8));
    }
    for (int k = 0; k < 4; k++) s.append(" image ").append(x.back(k)).append(' ').append(x.count(0)).append(' ').append(x.count(10));
    return s.append(" tape ").append(x.strip()).toString();
  }

  /** A strip on which much has been done: mile 2 is baked, mile 1 has salt 9, image 1 is made, five acts can be undone. */
  static DoughBorder rich() {
    DoughBorder x = border("strip 3 1;mile 0 22 45 2;mile 1 20 30 9;mile 2 18 8 0;warm 0 40 2;baked 2;"
        + "village 0 23 0;village 1 21 1;village 2 18 0;want 0 0;want 1 1");
    Texts.rule(x, "creep 1");
    Texts.rule(x, "creep 0-1 if mile=0;creep 2");
    x.force(1);
    x.seed(12345);
    x.night();
    x.image(1);
    x.horses(0, 2);
    x.log(3, 0, 46);
    x.slice(0, 5);
    x.sugar(0);
    x.salt(2);
    Texts.tell(x, "strip 2");
    return x;
  }

  /** The call answers so, and behind it all is as in an object of which it was never asked. */
  static void idle(Supplier<DoughBorder> made, String call, ToIntFunction<DoughBorder> asked, int want) {
    DoughBorder x = made.get();
    due(call, asked.applyAsInt(x), want);
    alike(call, all(x), all(made.get()));
  }
}
