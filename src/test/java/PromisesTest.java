/** Promise by promise: ordinary inputs, the edges that the document names, and wrong inputs, worked out by hand. */
public final class PromisesTest {
  private static int wrong = 0;
  private static String promise = "";

  private static void due(String call, int got, int want) {
    if (got != want) {
      wrong++;
      System.out.println(promise + ": " + call + " answered " + got + ", due is " + want);
    }
  }

  private static void due(String call, boolean got, boolean want) { due(call, got ? 1 : 0, want ? 1 : 0); }

  /** What strip and rule answer to a fault. */
  private static int fault(int place, int kind) { return -2 - (1 + 8 * place + kind); }

  private static DoughBorder border(String strip) {
    DoughBorder x = new DoughBorder();
    int got = Texts.strip(x, strip);
    if (got < 0) due("strip " + strip, got, 0);
    return x;
  }

  private static DoughBorder border(String strip, String rule) {
    DoughBorder x = border(strip);
    due("rule " + rule, Texts.rule(x, rule), 0);
    due("force 0", x.force(0), -1);
    return x;
  }

  private static void lines(DoughBorder x, int... want) {
    for (int m = 0; m < want.length; m++) due("line of mile " + m, x.mile(m, 0), want[m]);
  }

  public static void main(String[] args) {
    newObject();
    feed();
    end();
    stripFaults();
    stripWords();
    stripInPlace();
    ruleFaults();
    ruleCounts();
    ruleValues();
    ruleTests();
    force();
    mileAndVillage();
    warm();
    nights();
    nightEdges();
    horses();
    saltSugarSliceBake();
    undo();
    ahead();
    crosses();
    push();
    dukes();
    log();
    theft();
    weigh();
    crust();
    peace();
    part();
    seedAndSummers();
    count();
    images();
    System.out.println(wrong == 0 ? "all promises hold" : wrong + " answers are not as due");
    if (wrong != 0) System.exit(1);
  }

  private static void newObject() {
    promise = "1 a new object";
    DoughBorder x = new DoughBorder();
    for (int k = 0; k <= 12; k++) due("count " + k, x.count(k), k == 5 ? -1 : 0);
    due("back 0", x.back(0), -1);
    due("NONE", DoughBorder.NONE, -1);
  }

  private static void feed() {
    promise = "2 feed";
    DoughBorder x = new DoughBorder();
    for (int k = 1; k <= 20; k++) due("feed", x.feed(1, 2, 3, 4, 5), 20 * k);
    due("feed too much", x.feed(1, 2, 3, 4, 5), -1);
    due("bytes", x.count(12), 400);
    due("end 381", x.end(381), 381);
    due("feed one byte too much", x.feed(1, 2, 3, 4, 5), -1);
    due("bytes", x.count(12), 381);
    due("end 380", x.end(380), 380);
    due("feed just enough", x.feed(-1, -1, -1, -1, -1), 400);
    // "strip 2 0;village 0 " and the rest: each number's highest byte comes first
    DoughBorder y = new DoughBorder();
    due("feed", y.feed(0x73747269, 0x70203220, 0x303b7669, 0x6c6c6167, 0x65203020), 20);
    due("feed", y.feed(0x32302030, 0, 0, 0, 0), 40);
    due("end", y.end(24), 24);
    due("strip", y.strip(), 1);
    // a byte above 127 is no blank and no digit
    DoughBorder z = new DoughBorder();
    z.feed(0xff000000, 0, 0, 0, 0);
    z.end(1);
    due("strip", z.strip(), fault(0, 0));
  }

  private static void end() {
    promise = "3 end";
    DoughBorder x = new DoughBorder();
    due("end 0", x.end(0), 0);
    due("end 1", x.end(1), -1);
    x.feed(0, 0, 0, 0, 0);
    due("end -1", x.end(-1), -1);
    due("end 21", x.end(21), -1);
    due("bytes", x.count(12), 20);
    due("end 20", x.end(20), 20);
    due("end 7", x.end(7), 7);
    due("end 8", x.end(8), -1);
    due("bytes", x.count(12), 7);
    due("end MAX", x.end(Integer.MAX_VALUE), -1);
    due("end MIN", x.end(Integer.MIN_VALUE), -1);
  }

  private static void strip(String text, int want) {
    DoughBorder x = new DoughBorder();
    due("'" + text + "'", Texts.strip(x, text), want);
    due("bytes behind '" + text + "'", x.count(12), 0);
    if (want < 0) due("miles behind '" + text + "'", x.count(0), 0);
  }

  private static void stripFaults() {
    promise = "4 strip";
    strip("", fault(0, 0));
    strip("   ", fault(3, 0));
    strip("strip", fault(5, 0));
    strip("strip 2", fault(7, 0));
    strip("strip 2 0", 0);
    strip(" strip2  0 ", 0);
    strip("strip 00002 00003", 0);
    strip("strip 000002 0", fault(6, 1));
    strip("strip 1 0", fault(6, 1));
    strip("strip 11 0", fault(6, 1));
    strip("strip 10 3", 0);
    strip("strip 20", fault(6, 1));
    strip("strip 2 4", fault(8, 1));
    strip("strip 2 99999", fault(8, 1));
    strip("strip 2 0;", fault(10, 0));
    strip("strip 2 0; ", fault(11, 0));
    strip("strip 2 0;;", fault(10, 0));
    strip(";strip 2 0", fault(0, 0));
    strip("Strip 2 0", fault(0, 0));
    strip("strip\t2 0", fault(5, 0));
    strip("strip x 0", fault(6, 0));
    strip("strip -2 0", fault(6, 0));
    strip("strip 2 0 0", fault(10, 0));
    strip("strip 2 0 100000", fault(10, 0));
    strip("strip 2 0 mile 0 0 0 0", fault(10, 0));
    strip("strip 2 0\u00e9", fault(9, 0));
    strip("strip 2 0\0", fault(9, 0));
    strip("strip \u00ff 0", fault(6, 0));
    strip("strip 2 0\u00ff", fault(9, 0));
    strip("stripz 2 0", fault(0, 0));
    strip("strip 2 0;nile 0 0 0 0", fault(10, 0));
    strip("strip 2 0;strip", fault(10, 4));
    strip("strip 2 0; strip 2 0", fault(11, 4));
    strip("mile 0 20 10 0;strip 2 0", fault(0, 4));
    strip("  want", fault(2, 4));
    strip("village 0 0 0", fault(0, 4));
    strip("warm 0 0 1", fault(0, 4));
    strip("baked 0", fault(0, 4));
    strip("miles 0 0 0 0", fault(0, 0));
    strip("strip 2 0;stripe", fault(10, 0));
    strip("strip 2 0;mil 0 0 0 0", fault(10, 0));
    strip("strip 2 0;mile 0 40 99 9;mile 1 0 0 0", 0);
    strip("strip 2 0;mile 2 40 99 9", fault(15, 1));
    strip("strip 2 0;mile 0 41 99 9", fault(17, 1));
    strip("strip 2 0;mile 0 40 100 9", fault(20, 1));
    strip("strip 2 0;mile 0 40 99 10", fault(23, 1));
    strip("strip 2 0;mile 0 40 99", fault(22, 0));
    strip("strip 2 0;warm 99 99 9;warm 0 0 1", 0);
    strip("strip 2 0;warm 100 100 9", fault(15, 1));
    strip("strip 2 0;warm 5 4 1", fault(17, 1));
    strip("strip 2 0;warm 5 100 1", fault(17, 1));
    strip("strip 2 0;warm 5 5 0", fault(19, 1));
    strip("strip 2 0;warm 5 5 10", fault(19, 1));
    strip("strip 2 0;baked 1;baked 1", 0);
    strip("strip 2 0;baked 2", fault(16, 1));
    strip("strip 2 0;village 1 40 1", 1);
    strip("strip 2 0;village 2 40 1", fault(18, 1));
    strip("strip 2 0;village 1 41 1", fault(20, 1));
    strip("strip 2 0;village 1 40 2", fault(23, 1));
    strip("strip 2 0;want 0 0;village 0 0 0", fault(15, 1));
    strip("strip 2 0;village 0 0 0;want 0 0", 1);
    strip("strip 2 0;village 0 0 0;want 1 0", fault(29, 1));
    strip("strip 2 0;village 0 0 0;want 0 2", fault(31, 1));
    stripCounts();
  }

  private static void stripCounts() {
    String forty = "strip 2 0" + ";baked 0".repeat(39);
    strip(forty, 0);
    strip(forty + ";baked 0", fault(forty.length() + 1, 4));
    strip(forty + "; baked", fault(forty.length() + 2, 4));
    strip(forty + ";baker 0", fault(forty.length() + 1, 0));
    strip(forty + ";", fault(forty.length() + 1, 0));
    String eight = "strip 2 0" + ";village 0 0 0".repeat(8);
    strip(eight, 8);
    strip(eight + ";village 9 9 9", fault(eight.length() + 1, 4));
    String wants = "strip 2 0;village 0 0 0" + ";want 0 0".repeat(8);
    strip(wants, 1);
    strip(wants + ";want 0 0", fault(wants.length() + 1, 4));
  }

  private static void stripWords() {
    promise = "4 strip, what it tells";
    DoughBorder x = border("strip 3 2;mile 1 40 99 9;mile 1 0 7 5;warm 3 6 4;warm 5 5 9;baked 2;"
        + "village 2 40 1;village 0 0 0;village 2 20 0;want 2 1;want 0 0");
    due("miles", x.count(0), 3);
    due("damp", x.count(1), 2);
    due("villages", x.count(2), 3);
    due("wants", x.count(3), 2);
    int[][] miles = {{0, 10, 0, 0, 2}, {-20, 7, 5, 0, 0}, {0, 10, 0, 1, 5}};
    for (int m = 0; m < 3; m++) {
      for (int k = 0; k < 5; k++) due("mile " + m + " " + k, x.mile(m, k), miles[m][k]);
    }
    int[][] villages = {{2, 20, 1, 1, 0}, {0, -20, 0, 0, 0}, {2, 0, 0, 2, 0}};
    for (int v = 0; v < 3; v++) {
      for (int k = 0; k < 5; k++) due("village " + v + " " + k, x.village(v, k), villages[v][k]);
    }
    int[] warm = {0, 0, 0, 4, 4, 9, 4, 0};
    for (int n = 0; n < warm.length; n++) due("warm " + n, x.warm(n), warm[n]);
  }

  private static void stripInPlace() {
    promise = "4 strip, in place of another";
    DoughBorder x = border("strip 2 0;village 0 20 0", "creep 1");
    x.seed(77);
    x.night();
    x.log(0, 0, 10);
    due("crossed", x.count(8), 1);
    due("a fault", Texts.strip(x, "strip 2"), fault(7, 0));
    int[] stays = {2, 0, 1, 0, 1, 0, 1, 0, 1, 1, 1, 77, 0};
    for (int k = 0; k < stays.length; k++) due("count " + k, x.count(k), stays[k]);
    due("strip", Texts.strip(x, "strip 4 3;baked 3"), 0);
    int[] anew = {4, 3, 0, 0, 1, 0, 0, 8, 0, 0, 0, 77, 0};
    for (int k = 0; k < anew.length; k++) due("count " + k, x.count(k), anew[k]);
    due("undo", x.undo(), -2);
    due("ahead by the rule that stays", x.ahead(0, 1, 0), 1);
  }

  private static void rule(String text, int want) {
    DoughBorder x = new DoughBorder();
    due("'" + text + "'", Texts.rule(x, text), want);
    due("bytes behind '" + text + "'", x.count(12), 0);
    due("rules behind '" + text + "'", x.count(4), want < 0 ? 0 : 1);
  }

  private static void ruleFaults() {
    promise = "5 rule";
    rule("", fault(0, 0));
    rule("  ", fault(2, 0));
    rule("creep", fault(5, 0));
    rule("creep1", 0);
    rule("creep line", 0);
    rule("creepline", fault(0, 0));
    rule("creep 99999", 0);
    rule("creep 100000", fault(6, 1));
    rule("creep 1 creep 1", fault(8, 0));
    rule("creep 1 2", fault(8, 0));
    rule("creep 1 100000", fault(8, 0));
    rule("creep -1", fault(6, 0));
    rule("creep 1+", fault(8, 0));
    rule("creep 1+-1", fault(8, 0));
    rule("creep (1)", fault(6, 0));
    rule("creep [1]", fault(6, 0));
    rule("creep if 1=1", fault(6, 0));
    rule("creep not", fault(6, 0));
    rule("creep 1 or 2", fault(8, 0));
    rule("creep 1<2", fault(7, 0));
    rule("creep 1;", fault(8, 0));
    rule("creep 1;if", fault(8, 0));
    rule("creep 1if 1=1", 0);
    rule("creep 1 if", fault(10, 0));
    rule("creep 1 if 1", fault(12, 0));
    rule("creep 1 if 1;", fault(12, 0));
    rule("creep 1 if 1=", fault(13, 0));
    rule("creep 1 if 1==1", fault(13, 0));
    rule("creep 1 if 1<=1", 0);
    rule("creep 1 if 1< =1", fault(14, 0));
    rule("creep 1 if 1=<1", fault(13, 0));
    rule("creep 1 if 1<>1", fault(13, 0));
    rule("creep 1 if 1>=1;creep 2 if 2>1 and 1<2 or 3=3", 0);
    rule("creep 1 if 1=1 and", fault(18, 0));
    rule("creep 1 if 1=1 or or", fault(18, 0));
    rule("creep 1 if 1=1 if 1=1", fault(15, 0));
    rule("creep 1 if 1=1=1", fault(14, 0));
    rule("creep 1 if not 1=1", 0);
    rule("creep 1 if notx=1", fault(11, 0));
    rule("creep 1 if not", fault(14, 0));
    rule("creep 1 if 1=not 1", fault(13, 0));
    rule("creep 1 if [1=1", fault(15, 0));
    rule("creep 1 if [1=1;", fault(15, 0));
    rule("creep 1 if [1=1]]", fault(16, 0));
    rule("creep 1 if [1]", fault(13, 0));
    rule("creep 1 if []", fault(12, 0));
    rule("creep 1 if [1=1]=1", fault(16, 0));
    rule("creep 1 if 1=1 and [1=1 or not [2=2]]", 0);
    rule("creep 1 if 100000=x", fault(11, 1));
    rule("creep lines", fault(6, 0));
    rule("creep line\0", fault(10, 0));
    rule("creep fine", fault(6, 0));
    rule("creep mile+line+dough+salt+damp+warm+night+above+below+west+east+crust", 0);
  }

  private static void ruleCounts() {
    promise = "5 rule, too much of it";
    rule("creep 1 if " + "[".repeat(10) + "1=1" + "]".repeat(10), 0);
    rule("creep 1 if " + "[".repeat(11) + "1=1" + "]".repeat(11), fault(21, 2));
    rule("creep 1 if " + "not ".repeat(10) + "1=1", 0);
    rule("creep 1 if " + "not ".repeat(11) + "1=1", fault(51, 2));
    rule("creep 1 if " + "not[".repeat(5) + "1=1" + "]".repeat(5), 0);
    rule("creep 1 if " + "not[".repeat(5) + "not 1=1" + "]".repeat(5), fault(31, 2));
    rule("creep 1 if " + "not[".repeat(5) + "1=1" + "]".repeat(5) + " and " + "[".repeat(10) + "1=1"
        + "]".repeat(10), 0);
    rule("creep 1" + "+1".repeat(59), 0);
    rule("creep 1" + "+1".repeat(60), fault(126, 3));
    rule("creep 1" + "+1".repeat(59) + "+line", fault(126, 3));
    rule("creep 1" + "+1".repeat(59) + "+lin", fault(126, 0));
    rule("creep 1" + "+1".repeat(59) + "+100000", fault(126, 1));
    rule("creep 1" + "+1".repeat(59) + "+", fault(126, 0));
    rule("creep 1" + "+1".repeat(59) + ";creep 1", fault(132, 3));
    // 59 values and the sign are 60, so the next value is one too many; with 60 the sign is
    rule("creep 1" + "+1".repeat(57) + " if 1=1", fault(127, 3));
    rule("creep 1" + "+1".repeat(58) + " if 1=1", fault(128, 3));
    rule("creep 1" + "+1".repeat(56) + " if 1=1", 0);
    rule("creep 1" + "+1".repeat(58) + " if 1", fault(128, 0));
    String twelve = "creep 1" + ";creep 1".repeat(11);
    rule(twelve, 0);
    rule(twelve + ";creep 1", fault(twelve.length() + 1, 4));
    rule(twelve + "; creep", fault(twelve.length() + 2, 4));
    rule(twelve + ";creeps", fault(twelve.length() + 1, 0));
    rule(twelve + ";", fault(twelve.length() + 1, 0));
    DoughBorder x = new DoughBorder();
    for (int k = 0; k < 30; k++) due("a fault", Texts.rule(x, "creep 1" + "+1".repeat(60)), fault(126, 3));
    for (int k = 0; k < 6; k++) due("rule", Texts.rule(x, "creep " + k + " if 1=1"), k);
    Texts.strip(x, "strip 2 0");
    for (int k = 0; k < 6; k++) {
      x.force(k);
      due("creep " + k, x.ahead(0, 1, 0), Math.min(k, 3));
    }
    Texts.tell(x, "creep");
    due("a seventh", x.rule(), -1);
    due("bytes stay", x.count(12), 5);
    due("rules", x.count(4), 6);
  }

  /** A strip in which mile 1 has line -7, dough 43, salt 5, and two villages west and one east of its line. */
  private static final String TOLD = "strip 3 2;mile 0 11 1 0;mile 1 13 40 5;mile 2 15 2 0;warm 0 5 3;baked 2;"
      + "village 1 12 0;village 1 0 0;village 1 40 1;village 1 13 1;village 0 0 0";

  private static void holds(String test, boolean want) {
    DoughBorder x = border(TOLD, "creep 1 if mile=1 and [" + test + "]");
    due("creep if " + test, x.ahead(1, 1, 0), want ? -6 : -7);
  }

  private static void ruleValues() {
    promise = "5 rule, what it says";
    holds("mile=1", true);
    holds("line=0-7", true);
    holds("dough=43", true);
    holds("salt=5", true);
    holds("damp=2", true);
    holds("warm=3", true);
    holds("night=0", true);
    holds("above=0-9", true);
    holds("below=0-5", true);
    holds("west=2", true);
    holds("east=1", true);
    holds("crust=1", true);
    holds("line/2=0-3", true);
    holds("line%2=0-1", true);
    holds("line/0=0", true);
    holds("line%0=0", true);
    holds("2+3*4=14", true);
    holds("20-3-4=13", true);
    holds("20/3/2=3", true);
    holds("20/3*3=18", true);
    holds("20%7*2=12", true);
    holds("2*3+20%7-1=11", true);
    holds("99999*99999*99999*10000<0", true);
    holds("99999*99999*99999*10000=0-99999*99999*99999*10000", false);
    DoughBorder x = border("strip 2 0;mile 0 18 5 0;mile 1 21 5 0",
        "creep above+below if mile=0;creep above+below*2 if mile=1");
    due("no mile above", x.ahead(0, 1, 0), -3);
    due("no mile below", x.ahead(1, 1, 0), 1);
    for (String[] t : new String[][] {{"2", "2"}, {"4", "3"}, {"99999", "3"}, {"0-2", "-2"}, {"0-99999", "-3"}}) {
      due("creep " + t[0], border("strip 2 0", "creep " + t[0]).ahead(0, 1, 0), Integer.parseInt(t[1]));
    }
  }

  private static void ruleTests() {
    promise = "5 rule, its tests";
    holds("1<2", true);
    holds("2<2", false);
    holds("2<=2", true);
    holds("3<=2", false);
    holds("2>=2", true);
    holds("1>=2", false);
    holds("3>2", true);
    holds("2>2", false);
    holds("0-3<2", true);
    holds("1=1 or 1=1 and 1=2", true);
    holds("[1=1 or 1=1] and 1=2", false);
    holds("1=2 and 1=1 or 1=1", true);
    holds("not 1=2 and 1=1", true);
    holds("not 1=1 or 1=1", true);
    holds("not [1=1 or 1=1]", false);
    holds("not not 1=1", true);
    holds("not not not 1=1", false);
    DoughBorder x = border("strip 2 0", "creep 1 if mile=1;creep 2 if mile<2;creep 3");
    due("the first that holds", x.ahead(0, 1, 0), 2);
    due("the first that holds", x.ahead(1, 1, 0), 1);
    DoughBorder y = border("strip 2 3;mile 0 20 99 0", "creep 1 if mile=1");
    due("none holds", y.ahead(0, 1, 0), 0);
  }

  private static void force() {
    promise = "6 force";
    DoughBorder x = new DoughBorder();
    due("none such", x.force(0), -2);
    Texts.rule(x, "creep 1");
    Texts.rule(x, "creep 2");
    due("force 1", x.force(1), -1);
    due("force 2", x.force(2), -2);
    due("force -2", x.force(-2), -2);
    due("in force", x.count(5), 1);
    due("force 0", x.force(0), 1);
    due("force none", x.force(-1), 0);
    due("force none", x.force(-1), -1);
    Texts.strip(x, "strip 2 3");
    due("without a rule", x.ahead(0, 1, 0), 3);
    x.force(1);
    due("by a rule", x.ahead(0, 1, 0), 2);
  }

  private static void mileAndVillage() {
    promise = "7 mile, 8 village";
    DoughBorder x = border("strip 2 0;mile 1 40 5 3;village 1 40 1;village 1 39 0");
    int[][] wrongMiles = {{-1, 0}, {2, 0}, {0, -1}, {0, 5}, {Integer.MAX_VALUE, 1}, {1, Integer.MIN_VALUE}};
    for (int[] w : wrongMiles) due("mile " + w[0] + " " + w[1], x.mile(w[0], w[1]), -100);
    for (int[] w : wrongMiles) due("village " + w[0] + " " + w[1], x.village(w[0], w[1]), -100);
    due("villages in mile 1", x.mile(1, 4), 3);
    due("on the line", x.village(0, 3), 2);
    due("west", x.village(1, 3), 0);
    x.horses(1, -2);
    due("east", x.village(0, 3), 1);
    due("east", x.village(1, 3), 1);
    due("crossed", x.village(0, 4), 1);
    x.bake(1);
    due("baked", x.mile(1, 3), 1);
  }

  private static void warm() {
    promise = "9 warm";
    due("without a strip", new DoughBorder().warm(0), -1);
    DoughBorder x = border("strip 2 0;warm 0 99 9;warm 50 60 1");
    due("warm -1", x.warm(-1), -1);
    due("warm 0", x.warm(0), 9);
    due("warm 55", x.warm(55), 1);
    due("warm 99", x.warm(99), 9);
    due("warm 100", x.warm(100), 0);
    due("warm MAX", x.warm(Integer.MAX_VALUE), 0);
  }

  private static void nights() {
    promise = "10 night";
    due("without a strip", new DoughBorder().night(), -1);
    DoughBorder x = border("strip 2 0;mile 0 20 60 0;mile 1 20 0 0;village 0 21 0;village 1 20 1");
    due("night 0", x.night(), 1);
    lines(x, 3, 0);
    due("night 1", x.night(), 1);
    lines(x, 5, 1);
    due("night 2", x.night(), 0);
    lines(x, 7, 2);
    due("nights", x.count(6), 3);
    due("crossed", x.village(0, 4), 1);
    due("crossed", x.village(1, 4), 1);
    due("crossed in all", x.count(8), 2);
    // a baked mile neither rises, nor creeps, nor sags, but its neighbour does
    DoughBorder y = border("strip 2 0;mile 0 20 60 0;mile 1 20 60 0;baked 1;warm 0 9 5");
    y.night();
    y.night();
    lines(y, 5, 0);
    due("dough", y.mile(0, 1), 70);
    due("dough of a baked one", y.mile(1, 1), 60);
    // the first night's warmth is in the dough by which it creeps
    DoughBorder z = border("strip 2 1;mile 0 20 35 1;warm 0 0 5;warm 1 1 9");
    z.night();
    lines(z, 2, 1);
    z.night();
    lines(z, 4, 3);
    due("dough", z.mile(0, 1), 49);
    // without a rule salt holds back, and more salt lets it creep west
    DoughBorder w = border("strip 2 0;mile 0 20 40 3;mile 1 20 0 9");
    w.night();
    lines(w, -1, -3);
  }

  private static void nightEdges() {
    promise = "10 night, edges";
    DoughBorder x = border("strip 3 0;mile 0 20 0 0;mile 1 25 0 0;mile 2 29 0 0", "creep 0");
    x.night();
    lines(x, 1, 5, 8);
    DoughBorder flat = border("strip 3 0;mile 0 20 0 0;mile 1 24 0 0;mile 2 20 0 0", "creep 0");
    flat.night();
    lines(flat, 0, 4, 0);
    DoughBorder both = border("strip 3 0;mile 0 40 0 0;mile 1 0 0 0;mile 2 40 0 0;baked 1", "creep 0");
    both.night();
    lines(both, 19, -20, 19);
    DoughBorder far = border("strip 2 0;mile 0 39 95 0;mile 1 38 0 0;warm 0 9 9", "creep 3");
    far.night();
    lines(far, 20, 20);
    due("dough at most", far.mile(0, 1), 99);
    DoughBorder west = border("strip 2 0;mile 0 1 0 0;mile 1 2 0 0", "creep 0-3");
    west.night();
    lines(west, -20, -20);
    // all creep at once: mile 1 looks at where mile 0 lay, not at where it lies
    DoughBorder once = border("strip 2 0;mile 0 20 0 0;mile 1 22 0 0", "creep 2 if mile=0;creep above-line");
    once.night();
    lines(once, 2, 0);
    // a village that comes from east onto the line is crossed, and again behind it
    DoughBorder on = border("strip 2 0;village 0 21 0", "creep 1");
    due("onto the line", on.night(), 1);
    due("behind the line", on.night(), 1);
    due("away", on.night(), 0);
    due("crossed", on.village(0, 4), 2);
  }

  private static void horses() {
    promise = "11 horses";
    due("without a strip", new DoughBorder().horses(0, 1), -100);
    DoughBorder x = border("strip 2 0;mile 1 38 5 0;baked 0;village 1 39 0;village 1 38 0");
    due("baked", x.horses(0, 1), -100);
    for (int[] w : new int[][] {{-1, 1}, {2, 1}, {1, 0}, {1, 4}, {1, -4}, {1, Integer.MIN_VALUE}}) {
      due("horses " + w[0] + " " + w[1], x.horses(w[0], w[1]), -100);
    }
    due("no act", x.count(10), 0);
    due("horses 3", x.horses(1, 3), 20);
    due("crossed", x.count(8), 2);
    due("held", x.horses(1, 1), 20);
    due("acts", x.count(10), 2);
    due("not crossed", x.count(8), 2);
    due("west", x.horses(1, -3), 17);
    due("crossed", x.count(8), 4);
    due("it is no night", x.count(6), 0);
  }

  private static void saltSugarSliceBake() {
    promise = "12 salt";
    DoughBorder x = border("strip 2 0;mile 0 20 85 8;mile 1 20 5 0;baked 1");
    due("salt -1", x.salt(-1), -1);
    due("salt 2", x.salt(2), -1);
    due("salt 0", x.salt(0), 9);
    due("salt at 9", x.salt(0), -1);
    due("salt of a baked one", x.salt(1), 1);
    due("acts", x.count(10), 2);
    promise = "13 sugar";
    due("sugar -1", x.sugar(-1), -1);
    due("sugar 2", x.sugar(2), -1);
    due("sugar of a baked one", x.sugar(1), -1);
    due("sugar 0", x.sugar(0), 95);
    due("salt then", x.mile(0, 2), 8);
    due("sugar at most", x.sugar(0), 99);
    due("sugar beyond", x.sugar(0), 99);
    due("salt then", x.mile(0, 2), 6);
    DoughBorder y = border("strip 2 0");
    due("sugar without salt", y.sugar(0), 20);
    due("salt at least", y.mile(0, 2), 0);
    promise = "14 slice";
    for (int[] w : new int[][] {{-1, 1}, {2, 1}, {1, 1}, {0, 0}, {0, -1}, {0, 100}}) {
      due("slice " + w[0] + " " + w[1], x.slice(w[0], w[1]), -1);
    }
    due("slice more than there is", y.slice(0, 21), -1);
    due("slice all", y.slice(0, 20), 0);
    due("slice nothing", y.slice(0, 1), -1);
    due("slice 99", x.slice(0, 99), 0);
    promise = "15 bake";
    due("bake -1", x.bake(-1), false);
    due("bake 2", x.bake(2), false);
    due("bake a baked one", x.bake(1), false);
    due("bake", x.bake(0), true);
    due("bake again", x.bake(0), false);
    due("baked", x.count(7), 3);
    due("without a strip", new DoughBorder().bake(0), false);
  }

  private static void undo() {
    promise = "16 undo";
    DoughBorder x = border("strip 2 0;mile 0 20 45 2;village 0 21 0;warm 0 9 5", "creep 1");
    x.night();
    x.horses(0, 2);
    x.salt(0);
    x.sugar(0);
    x.slice(0, 7);
    x.bake(0);
    x.log(0, 0, 5);
    x.seed(9);
    x.force(-1);
    due("acts", x.count(10), 6);
    due("undo bake", x.undo(), 5);
    due("baked", x.count(7), 0);
    due("undo slice", x.undo(), 4);
    due("dough", x.mile(0, 1), 60);
    due("undo sugar", x.undo(), 3);
    due("dough", x.mile(0, 1), 50);
    due("salt", x.mile(0, 2), 3);
    due("undo salt", x.undo(), 2);
    due("salt", x.mile(0, 2), 2);
    due("crossed", x.village(0, 4), 2);
    due("undo horses", x.undo(), 1);
    due("line", x.mile(0, 0), 1);
    due("crossed", x.village(0, 4), 1);
    due("undo night", x.undo(), 0);
    due("night", x.count(6), 0);
    due("dough", x.mile(0, 1), 45);
    due("crossed", x.count(8), 0);
    due("undo nothing", x.undo(), -2);
    due("logs stay", x.count(9), 1);
    due("x stays", x.count(11), 9);
    due("the rule stays", x.count(5), -1);
    DoughBorder y = border("strip 2 0");
    for (int k = 0; k < 25; k++) y.night();
    due("acts at most", y.count(10), 20);
    for (int k = 19; k >= 0; k--) due("undo", y.undo(), k);
    due("night", y.count(6), 5);
    due("undo", y.undo(), -2);
    y.night();
    due("undo", y.undo(), 0);
    due("without a strip", new DoughBorder().undo(), -2);
  }

  private static void ahead() {
    promise = "17 ahead";
    DoughBorder x = border("strip 2 0;mile 0 20 40 0;village 0 30 0;village 1 19 0;village 0 20 0;warm 0 9 1", "creep 1");
    for (int[] w : new int[][] {{-1, 0, 0}, {2, 0, 0}, {0, -1, 0}, {0, 101, 0}, {0, 0, 3}, {0, 0, -1}}) {
      due("ahead", x.ahead(w[0], w[1], w[2]), -100);
    }
    due("line now", x.ahead(0, 0, 0), 0);
    due("line", x.ahead(0, 7, 0), 7);
    due("line held", x.ahead(1, 100, 0), 20);
    due("dough", x.ahead(0, 7, 1), 47);
    due("dough", x.ahead(0, 100, 1), 50);
    due("east", x.ahead(0, 0, 2), 1);
    due("east", x.ahead(0, 9, 2), 1);
    due("on the line is not east", x.ahead(0, 10, 2), 0);
    due("nothing changes", x.count(6), 0);
    lines(x, 0, 0);
    due("no act", x.count(10), 0);
    x.night();
    due("from now on", x.ahead(0, 7, 1), 48);
  }

  private static void crosses() {
    promise = "18 crosses";
    DoughBorder x = border("strip 2 0;village 0 23 0;village 1 40 0;village 1 5 0", "creep 1 if mile=0;creep 1 if night=59 or night=60");
    due("crosses -1", x.crosses(-1), -1);
    due("crosses 3", x.crosses(3), -1);
    due("crosses 0", x.crosses(0), 2);
    due("crosses never", x.crosses(2), -2);
    x.night();
    due("the night by its number", x.crosses(0), 2);
    due("nothing changes", x.count(8), 0);
    x.horses(0, 3);
    due("behind the line", x.crosses(0), -2);
    String at = "strip 2 0;baked 0;village 1 20 0";
    due("the 60th", border(at, "creep 1 if night=59").crosses(0), 59);
    due("the 61st", border(at, "creep 1 if night=60").crosses(0), -2);
  }

  private static void push() {
    promise = "19 push";
    due("without a strip", new DoughBorder().push(1, 0), -3);
    DoughBorder x = border("strip 2 0;village 0 21 0;want 0 0");
    for (int[] w : new int[][] {{0, 0}, {4, 0}, {1, -1}, {1, 4}}) due("push", x.push(w[0], w[1]), -3);
    due("push 1", x.push(1, 0), 1);
    due("push 1, night 1", x.push(1, 1), 1);
    due("push 1, night 2", x.push(1, 2), -2);
    due("push 2", x.push(2, 0), 1);
    due("none first", x.push(2, 1), -1);
    due("then east", x.push(2, 2), 1);
    due("push 2, night 3", x.push(2, 3), -2);
    due("nothing changes", x.mile(0, 0), 0);
    DoughBorder two = border("strip 2 0;village 1 23 0;want 0 0");
    due("can't be", two.push(1, 0), -2);
    due("can't be", two.push(1, 1), -2);
    due("two", two.push(2, 0), 2);
    due("three nights", two.push(3, 0), 2);
    int[] row = {-1, 3, 3};
    for (int k = 0; k < 3; k++) due("row " + k, two.push(3, k + 1), row[k]);
    DoughBorder west = border("strip 2 0;village 1 19 0;want 0 1");
    due("west", west.push(1, 1), 2);
    due("west of mile 0", border("strip 2 0;village 0 19 0;want 0 1").push(1, 1), 0);
    DoughBorder none = border("strip 2 0;village 1 19 0");
    due("no wants", none.push(3, 0), 0);
    due("no wants", none.push(3, 3), -1);
    DoughBorder baked = border("strip 2 0;village 1 19 0;want 0 1;baked 1");
    due("baked", baked.push(3, 0), -2);
    DoughBorder on = border("strip 2 0;village 1 20 0;want 0 1");
    due("on the line is no side", on.push(1, 0), 1);
    DoughBorder both = border("strip 2 0;village 1 20 0;want 0 1;want 0 0");
    due("both sides", both.push(2, 0), -2);
  }

  private static void dukes() {
    promise = "20 dukes";
    due("without a strip", new DoughBorder().dukes(1, 0), -100);
    DoughBorder x = border("strip 2 0;village 1 20 0");
    for (int[] w : new int[][] {{0, 0}, {5, 0}, {1, -1}, {1, 2}}) due("dukes", x.dukes(w[0], w[1]), -100);
    int[] much = {1, 0, 1, 0};
    for (int n = 1; n <= 4; n++) {
      due("dukes " + n, x.dukes(n, 0), much[n - 1]);
      due("first push " + n, x.dukes(n, 1), 1);
    }
    DoughBorder far = border("strip 2 0;village 1 40 0;village 0 0 1;village 0 0 1");
    due("nothing to gain", far.dukes(4, 0), 1);
    due("none is first", far.dukes(4, 1), -1);
    DoughBorder baked = border("strip 2 0;village 1 20 0;baked 1");
    due("baked", baked.dukes(1, 0), 0);
    due("baked", baked.dukes(1, 1), -1);
    DoughBorder no = border("strip 10 0");
    due("no villages", no.dukes(4, 0), 0);
    due("no villages", no.dukes(4, 1), -1);
    DoughBorder least = border("strip 3 0;village 1 20 0;village 2 20 0");
    due("the least mile", least.dukes(1, 1), 1);
    due("nothing changes", least.mile(1, 0), 0);
  }

  private static void log() {
    promise = "21 log";
    DoughBorder x = border("strip 2 0");
    for (int[] w : new int[][] {{-2, 0, 0}, {31, 0, 0}, {0, -1, 0}, {0, 2, 0}, {0, 0, -1}, {0, 0, 100}}) {
      due("log", x.log(w[0], w[1], w[2]), -2);
    }
    due("no logs", x.count(9), 0);
    for (int k = 1; k <= 10; k++) due("log", x.log(30, 1, 99), k);
    due("an eleventh", x.log(0, 0, 0), -2);
    due("logs", x.count(9), 10);
    due("none then", x.log(-1, 99, 999), 0);
    due("logs", x.count(9), 0);
    due("log is no act", x.count(10), 0);
  }

  private static void theft() {
    promise = "22 theft";
    due("without a strip", new DoughBorder().theft(1, 0), -1);
    DoughBorder x = border("strip 3 0;mile 0 20 40 0;mile 1 20 50 0;mile 2 20 3 0;baked 1;warm 0 1 5");
    for (int[] w : new int[][] {{0, 0}, {100, 0}, {1, -1}, {1, 3}}) due("theft", x.theft(w[0], w[1]), -1);
    // mile 1 is baked; mile 2 has 3, 8, then 13
    due("size 3", x.theft(3, 0), 60);
    due("size 9", x.theft(9, 0), 58);
    due("size 41", x.theft(41, 0), 29);
    due("its mile", x.theft(41, 1), 0);
    due("its night", x.theft(41, 2), 1);
    due("size 51", x.theft(51, 0), 0);
    due("no mile", x.theft(51, 1), -2);
    due("no night", x.theft(51, 2), -2);
    x.log(5, 0, 50);
    x.log(4, 2, 9);
    due("size 4", x.theft(4, 0), 4);
    due("its mile", x.theft(4, 1), 2);
    due("its night: none at 0, where there are 3", x.theft(4, 2), 1);
    x.log(1, 2, 8);
    due("behind the log of night 1", x.theft(4, 0), 3);
    due("its night", x.theft(4, 2), 2);
    x.log(2, 2, 9);
    due("the log of a night is behind its theft", x.theft(4, 0), 1);
    due("its night", x.theft(4, 2), 2);
    x.log(0, 1, 49);
    due("a baked mile keeps its dough", x.theft(4, 0), 0);
    // what was done by hand is not asked, nor what is in force
    DoughBorder y = border("strip 2 0;warm 0 0 9", "creep 3");
    y.night();
    y.slice(0, 19);
    y.bake(1);
    due("as the text told it", y.theft(19, 0), 58);
    DoughBorder full = border("strip 2 0;mile 0 20 95 0;baked 1;warm 0 9 9");
    full.log(3, 0, 99);
    due("99 at most", full.theft(20, 0), 27);
    due("ahead of which it rises again", full.theft(20, 2), 0);
    due("made up by 27 more", full.theft(28, 0), 26);
    due("made up by 27 more", full.theft(28, 2), 4);
  }

  private static void weigh() {
    promise = "23 weigh";
    due("without a strip", new DoughBorder().weigh(1, 0, 0), -1);
    DoughBorder x = border("strip 3 0;mile 0 20 40 0;mile 1 20 50 0;mile 2 20 60 0;baked 1");
    for (int[] w : new int[][] {{0, 0, 0}, {100, 0, 0}, {1, -1, 0}, {1, 31, 0}, {1, 0, -1}, {1, 0, 2}}) {
      due("weigh", x.weigh(w[0], w[1], w[2]), -1);
    }
    due("none", x.weigh(61, 5, 0), -2);
    due("none", x.weigh(61, 5, 1), -2);
    // 60 thefts; at night 0 one of them shows in mile 0, one in mile 2
    due("night 0", x.weigh(5, 0, 0), 0);
    due("night 0", x.weigh(5, 0, 1), 59);
    due("night 9", x.weigh(5, 9, 1), 50);
    due("night 29", x.weigh(5, 29, 1), 30);
    due("night 30", x.weigh(5, 30, 1), 30);
    // a theft of 41 can only be in mile 2, so mile 2 tells more
    due("mile 2", x.weigh(41, 9, 0), 2);
    due("mile 2", x.weigh(41, 9, 1), 20);
    x.log(30, 2, 60);
    due("mile 0", x.weigh(5, 9, 0), 0);
    due("mile 0", x.weigh(5, 9, 1), 20);
  }

  private static void crust() {
    promise = "24 crust";
    due("without a strip", new DoughBorder().crust(0, 0, 1, 0), -2);
    DoughBorder x = border("strip 2 0;village 0 22 0;village 0 22 1;village 1 20 1", "creep 1");
    for (int[] w : new int[][] {{-1, 0, 1, 0}, {2, 0, 1, 0}, {0, -1, 1, 0}, {0, 3, 1, 0}, {0, 0, 0, 0}, {0, 0, 61, 0},
        {0, 0, 1, -1}, {0, 0, 1, 2}}) {
      due("crust", x.crust(w[0], w[1], w[2], w[3]), -2);
    }
    due("the west's: never", x.crust(0, 0, 5, 0), -1);
    due("the west's", x.crust(0, 0, 5, 1), 3);
    due("the east's", x.crust(0, 1, 5, 0), 1);
    due("the east's", x.crust(0, 1, 5, 1), 5);
    due("of no use", x.crust(1, 1, 5, 0), -1);
    due("of no use", x.crust(1, 1, 5, 1), 1);
    due("on the line is nobody's side", x.crust(1, 2, 9, 1), 0);
    x.night();
    due("the night by its number", x.crust(0, 1, 5, 0), 1);
    due("of how many", x.crust(0, 1, 5, 1), 5);
    due("nothing changes", x.count(7), 0);
    x.horses(0, -3);
    x.bake(0);
    due("baked already", x.crust(0, 1, 5, 0), -1);
    due("baked already", x.crust(0, 1, 5, 1), 5);
    due("sixty", x.crust(1, 1, 60, 1), 60);
  }

  private static void peace() {
    promise = "25 peace";
    due("without a strip", new DoughBorder().peace(1, 0), -1);
    DoughBorder x = border("strip 3 0;village 2 22 0;village 1 21 0", "creep 1");
    for (int[] w : new int[][] {{0, 0}, {61, 0}, {1, -1}, {1, 2}}) due("peace", x.peace(w[0], w[1]), -1);
    due("one night", x.peace(1, 0), 1);
    due("one night", x.peace(1, 1), 2);
    due("two nights", x.peace(2, 0), 2);
    due("two nights", x.peace(2, 1), 6);
    due("sixty nights", x.peace(60, 1), 6);
    due("nothing changes", x.count(7), 0);
    x.bake(2);
    due("one is baked", x.peace(60, 0), 1);
    due("one is baked", x.peace(60, 1), 2);
    due("no villages", border("strip 2 3").peace(60, 0), 0);
    due("no villages", border("strip 2 3").peace(60, 1), 0);
    // mile 1 is only drawn along, so either the one that draws or the one that is drawn may be baked
    DoughBorder y = border("strip 2 0;mile 0 22 0 0;village 1 20 0", "creep 1 if mile=0 and night<9");
    due("drawn along", y.peace(9, 0), 1);
    due("the least set", y.peace(9, 1), 1);
    // mile 2 draws mile 1 along, and mile 0 creeps beside a baked mile 1: of 4 and 3 the first has fewer miles
    DoughBorder z = border("strip 3 0;village 0 20 0;village 1 20 0", "creep 3 if mile=2;creep 1 if mile=0 and crust=1");
    due("fewest ahead of least", z.peace(5, 0), 1);
    due("fewest ahead of least", z.peace(5, 1), 4);
  }

  private static void part() {
    promise = "26 part";
    due("without a strip", new DoughBorder().part(0), -1);
    due("without a strip", new DoughBorder().part(1), -1);
    int[][] cases = {{20, 20, 20, 41}, {0, 0, 0, 1}, {40, 40, 40, 41}, {1, 0, 1, 82}, {40, 1, 1, 2}};
    for (int[] c : cases) {
      DoughBorder x = border("strip 2 0;mile 0 " + c[0] + " 0 0;mile 1 " + c[1] + " 0 0");
      due("above", x.part(0), c[2]);
      due("below", x.part(1), c[3]);
      due("part -1", x.part(-1), -1);
      due("part 2", x.part(2), -1);
    }
  }

  private static void seedAndSummers() {
    promise = "27 seed";
    DoughBorder x = border("strip 2 0;village 0 20 0;warm 0 99 9", "creep 1 if warm=8;creep 0-1 if warm=3");
    due("seed -1", x.seed(-1), -1);
    due("seed MIN", x.seed(Integer.MIN_VALUE), -1);
    due("seed", x.seed(2147483647), 0);
    due("seed", x.seed(1), 2147483647);
    due("x", x.count(11), 1);
    promise = "28 summers";
    due("without a strip", new DoughBorder().summers(1, 1, 0), -1);
    for (int[] w : new int[][] {{0, 1, 0}, {11, 1, 0}, {1, 0, 0}, {1, 61, 0}, {1, 1, -1}, {1, 1, 2}}) {
      due("summers", x.summers(w[0], w[1], w[2]), -1);
    }
    // the draws from 1 are 16838, 5758, 10113, 17515, 31051, 5627: warmths 8, 8, 3, 5, 1, 7
    due("two nights", x.summers(1, 2, 1), 4);
    due("three nights", x.summers(1, 3, 1), 2);
    due("crossed", x.summers(1, 3, 0), 1);
    due("two times", x.summers(2, 1, 1), 4);
    due("three times, without signs", x.summers(3, 1, 1), 6);
    due("three times", x.summers(3, 1, 0), 3);
    due("six times", x.summers(6, 1, 1), 6);
    due("x as it was", x.count(11), 1);
    due("nothing changes", x.count(6), 0);
  }

  private static void count() {
    promise = "29 count";
    DoughBorder x = border("strip 3 2;village 0 20 0;village 0 20 0;want 0 0;baked 1", "creep 1");
    x.night();
    x.bake(2);
    x.log(0, 0, 0);
    x.seed(5);
    x.feed(0, 0, 0, 0, 0);
    int[] all = {3, 2, 2, 1, 1, 0, 1, 6, 2, 1, 2, 5, 20};
    for (int k = 0; k < all.length; k++) due("count " + k, x.count(k), all[k]);
    due("count -1", x.count(-1), -1);
    due("count 13", x.count(13), -1);
  }

  private static void images() {
    promise = "30 image, 31 back";
    DoughBorder x = border("strip 2 0;village 0 20 0", "creep 1");
    for (int k : new int[] {-1, 4, Integer.MAX_VALUE, Integer.MIN_VALUE}) {
      due("image " + k, x.image(k), -1);
      due("back " + k, x.back(k), -1);
    }
    due("never made", x.back(2), -1);
    x.night();
    x.log(1, 1, 1);
    x.seed(3);
    due("image 2", x.image(2), 1);
    x.night();
    x.bake(0);
    x.log(2, 0, 7);
    x.seed(4);
    Texts.rule(x, "creep 2");
    x.force(1);
    due("image 3", x.image(3), 2);
    Texts.strip(x, "strip 5 3");
    x.feed(0, 0, 0, 0, 0);
    due("back 2", x.back(2), 1);
    int[] two = {2, 0, 1, 0, 2, 0, 1, 0, 1, 1, 1, 3, 20};
    for (int k = 0; k < two.length; k++) due("count " + k, x.count(k), two[k]);
    due("the rule that was in force", x.ahead(0, 1, 0), 2);
    due("undo", x.undo(), 0);
    due("line", x.mile(0, 0), 0);
    due("back 3", x.back(3), 2);
    int[] three = {2, 0, 1, 0, 2, 1, 2, 1, 1, 2, 3, 4, 20};
    for (int k = 0; k < three.length; k++) due("count " + k, x.count(k), three[k]);
    due("undo", x.undo(), 2);
    due("undo", x.undo(), 1);
    due("line", x.mile(0, 0), 1);
    due("an image stays as it was", x.back(3), 2);
    due("undo again", x.undo(), 2);
    due("back 2 again", x.back(2), 1);
    due("image 2 anew", x.image(2), 1);
    due("image 0", x.image(0), 1);
    DoughBorder logs = border("strip 2 0;mile 0 20 30 0;mile 1 20 40 0");
    logs.log(3, 1, 35);
    logs.image(0);
    logs.log(-1, 0, 0);
    logs.log(5, 0, 25);
    due("thefts by the log", logs.theft(5, 0), 6);
    logs.back(0);
    due("thefts by the log of the image", logs.theft(5, 0), 4);
    due("their mile", logs.theft(5, 1), 1);
    DoughBorder y = new DoughBorder();
    due("image without a strip", y.image(1), 0);
    Texts.strip(y, "strip 2 0");
    y.night();
    due("back to none", y.back(1), 0);
    due("no strip", y.count(0), 0);
    due("no strip", y.night(), -1);
    due("no acts", y.undo(), -2);
  }
}
