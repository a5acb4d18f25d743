/** Edges of the tape and of the two languages: promises 2 to 5, and part I of the terms. */
public final class TextEdgesTest extends Checks {
  public static void main(String[] args) {
    bytesOfFeeds();
    fullTape();
    ends();
    longestTexts();
    stripClauses();
    stripNumbers();
    miles();
    warmNights();
    bakedMiles();
    villages();
    wants();
    numbers();
    blanksAndBytes();
    stripFaults();
    ruleClauses();
    ruleNumber();
    grammar();
    words();
    arithmetic();
    wrapAround();
    depth();
    valuesAndFacts();
    ruleFaults();
    leastOfOnePlace();
    sixRules();
    finish();
  }

  private static void strip(String text, int want) {
    DoughBorder x = new DoughBorder();
    due("strip '" + text + "'", Texts.strip(x, text), want);
    due("bytes behind strip '" + text + "'", x.count(12), 0);
    if (want < 0) due("miles behind strip '" + text + "'", x.count(0), 0);
  }

  private static void rule(String text, int want) {
    DoughBorder x = new DoughBorder();
    due("rule '" + text + "'", Texts.rule(x, text), want);
    due("bytes behind rule '" + text + "'", x.count(12), 0);
    due("rules behind rule '" + text + "'", x.count(4), want < 0 ? 0 : 1);
  }

  // ---- the tape

  private static void bytesOfFeeds() {
    says("2: Twenty bytes come behind the TAPE, of each number the highest first");
    DoughBorder x = new DoughBorder();
    due("feed", x.feed(0x73747269, 0x70203220, 0x303b6261, 0x6b656420, 0x31202020), 20);
    due("strip 2 0;baked 1", x.strip(), 0);
    due("baked", x.count(7), 2);
    DoughBorder y = new DoughBorder();
    due("feed", y.feed(0x73747269, 0x70203220, 0x303b7878, 0x78787878, 0x78787878), 20);
    due("end 10", y.end(10), 10);
    due("feed behind ten", y.feed(0x62616b65, 0x64203020, 0x20202020, 0x20202020, 0x3b207761), 30);
    due("feed behind thirty", y.feed(0x726d2033, 0x20342035, 0x20202020, 0x20202020, 0x20202020), 50);
    due("strip 2 0;baked 0; warm 3 4 5", y.strip(), 0);
    due("baked", y.count(7), 1);
    due("warm", y.warm(4), 5);
    says("2: bytes 128 to 255 are bytes of their own, in each of the four places of a number");
    for (int shift = 0; shift < 32; shift += 8) {
      DoughBorder z = new DoughBorder();
      z.feed(0x20202020 ^ (0x20 ^ 0xb0) << shift, 0x20202020, 0x20202020, 0x20202020, 0x20202020);
      due("byte 176 at " + (24 - shift) / 8, z.strip(), fault((24 - shift) / 8, 0));
    }
  }

  private static void fullTape() {
    says("2: how many it has; NONE, and none comes, if it would have more than 400");
    DoughBorder x = new DoughBorder();
    for (int k = 1; k <= 20; k++) due("feed", x.feed(0x20202020, 0x20202020, 0x20202020, 0x20202020, 0x20202020), 20 * k);
    int[] had = {400, 399, 390, 382, 381};
    for (int n : had) {
      due("end " + n, x.end(n), n);
      due("feed behind " + n, x.feed(1, 2, 3, 4, 5), -1);
      due("bytes", x.count(12), n);
    }
    due("end 380", x.end(380), 380);
    due("feed behind 380", x.feed(0x20202020, 0x20202020, 0x20202020, 0x20202020, 0x20202020), 400);
    due("all are blanks still", x.strip(), fault(400, 0));
    DoughBorder y = new DoughBorder();
    Texts.tell(y, "strip 2 0;baked 1" + " ".repeat(364));
    due("feed behind 381", y.feed(0x78787878, 0x78787878, 0x78787878, 0x78787878, 0x78787878), -1);
    due("no x came", y.strip(), 0);
    due("baked", y.count(7), 2);
  }

  private static void ends() {
    says("3: The TAPE has its first n bytes alone: n");
    DoughBorder x = new DoughBorder();
    Texts.tell(x, "strip 2 0;baked 1;baked 0");
    due("end 25", x.end(25), 25);
    due("end 17", x.end(17), 17);
    due("strip", x.strip(), 0);
    due("the first 17 bytes", x.count(7), 2);
    DoughBorder y = new DoughBorder();
    Texts.tell(y, "strip 2 0");
    due("end 0", y.end(0), 0);
    due("bytes", y.count(12), 0);
    due("an empty tape", y.strip(), fault(0, 0));
    says("3: .. alone: a word, a number or a sign ends with it");
    String[] cut = {"strip 2 0|1", "strip 2 0;baked 0|9"};
    for (String text : cut) due("strip '" + text + "'", cutAt(text).strip(), 0);
    due("strip 'strip|s 2 0'", cutAt("strip|s").strip(), fault(5, 0));
    due("strip 'strip 2 0;| baked'", cutAt("strip 2 0;| baked").strip(), fault(10, 0));
    due("rule 'creep line|s'", cutAt("creep line|s").rule(), 0);
    due("rule 'creep 99999|9'", cutAt("creep 99999|9").rule(), 0);
    due("rule 'creep 1 if 1<|=1'", cutAt("creep 1 if 1<|=1").rule(), fault(13, 0));
    due("rule 'creep 1|+1'", cutAt("creep 1|+1").rule(), 0);
    says("3: NONE, and nothing happens, if it has not so many, or n is below 0");
    DoughBorder z = new DoughBorder();
    due("end 1 of none", z.end(1), -1);
    due("end 0 of none", z.end(0), 0);
    Texts.tell(z, "strip 2 0");
    for (int n : new int[] {10, 20, 400, -1, -9, Integer.MAX_VALUE, Integer.MIN_VALUE}) {
      due("end " + n, z.end(n), -1);
      due("bytes behind end " + n, z.count(12), 9);
    }
    due("strip", z.strip(), 0);
    due("end 9 behind strip", z.end(9), -1);
    due("end 1 behind strip", z.end(1), -1);
  }

  /** A tape that had a text and is cut where the bar stands. */
  private static DoughBorder cutAt(String text) {
    int bar = text.indexOf('|');
    DoughBorder x = new DoughBorder();
    Texts.tell(x, text.substring(0, bar) + text.substring(bar + 1));
    due("end " + bar, x.end(bar), bar);
    return x;
  }

  private static void longestTexts() {
    says("I: A STRIP is a text of at most 400 bytes");
    DoughBorder x = new DoughBorder();
    due("strip of 400 bytes", Texts.strip(x, "strip 2 0;baked" + " ".repeat(384) + "1"), 0);
    due("its last byte", x.count(7), 2);
    strip("strip 2 0;" + " ".repeat(390), fault(400, 0));
    strip("strip 2 0;baked" + " ".repeat(384) + "2", fault(399, 1));
    says("I: RULES: texts likewise");
    DoughBorder y = border("strip 2 0");
    due("rule of 400 bytes", Texts.rule(y, "creep" + " ".repeat(394) + "2"), 0);
    y.force(0);
    due("its last byte", y.ahead(0, 1, 0), 2);
    rule("creep" + " ".repeat(395), fault(400, 0));
    rule("creep 1" + " ".repeat(392) + ";", fault(400, 0));
    rule("creep 1" + " ".repeat(392) + "1", fault(399, 0));
  }

  // ---- strips

  private static void stripClauses() {
    says("I: CLAUSE { ; CLAUSE }, 40 at most");
    strip("", fault(0, 0));
    strip("strip 2 0", 0);
    strip("strip 2 0;", fault(10, 0));
    strip("strip 2 0;;baked 0", fault(10, 0));
    strip(";strip 2 0", fault(0, 0));
    String thirtyNine = "strip 2 0" + ";baked 0".repeat(38);
    DoughBorder x = new DoughBorder();
    due("40 clauses", Texts.strip(x, thirtyNine + ";baked 1"), 0);
    due("the 40th is heard", x.count(7), 3);
    int at = thirtyNine.length() + 9;
    for (String more : new String[] {"mile 0 20 10 0", "warm 0 0 1", "baked 0", "village 0 0 0", "want 0 0", "strip 2 0"}) {
      strip(thirtyNine + ";baked 1;" + more, fault(at, 4));
    }
    strip(thirtyNine + ";village 0 20 0", 1);
    strip(thirtyNine + ";village 0 20 0;want 0 0", fault(thirtyNine.length() + 16, 4));
    strip(thirtyNine + ";mile 0 20 10 0", 0);
    strip(thirtyNine + ";mile 0 20 10 10", fault(thirtyNine.length() + 14, 1));
    says("I: strip .. once, the first CLAUSE");
    strip("strip 2 0;strip 2 0", fault(10, 4));
    strip("strip 2 0;baked 0;strip 2 0", fault(18, 4));
    for (String other : new String[] {"mile 0 20 10 0", "warm 0 0 1", "baked 0", "village 0 0 0", "want 0 0"}) {
      strip(other, fault(0, 4));
      strip("  " + other + ";strip 2 0", fault(2, 4));
    }
  }

  private static void stripNumbers() {
    says("I: strip NUMBER NUMBER (MILES 2 to 10 ..; DAMP 0 to 3)");
    for (int n : new int[] {0, 1, 11, 12, 20, 99999}) strip("strip " + n + " 0", fault(6, 1));
    for (int n : new int[] {4, 5, 10, 99999}) strip("strip 2 " + n, fault(8, 1));
    for (int miles = 2; miles <= 10; miles++) {
      for (int damp = 0; damp <= 3; damp++) {
        DoughBorder x = border("strip " + miles + " " + damp);
        due("miles", x.count(0), miles);
        due("damp", x.count(1), damp);
        due("the last mile", x.mile(miles - 1, 1), 10);
        due("one more", x.mile(miles, 1), -100);
      }
    }
    strip("strip", fault(5, 0));
    strip("strip 2", fault(7, 0));
    strip("strip 2;", fault(7, 0));
    strip("strip 2 0 0", fault(10, 0));
  }

  private static void miles() {
    says("I: mile NUMBER NUMBER NUMBER NUMBER (a MILE; ..)");
    strip("strip 2 0;mile 1 0 0 0", 0);
    strip("strip 2 0;mile 2 0 0 0", fault(15, 1));
    strip("strip 10 0;mile 9 0 0 0", 0);
    strip("strip 10 0;mile 10 0 0 0", fault(16, 1));
    says("I: its LINE, 0 to 40: 20 more than by how many feet it lies east of the middle");
    int[] told = {0, 1, 19, 20, 21, 39, 40};
    for (int line : told) {
      DoughBorder x = border("strip 2 0;mile 1 " + line + " 10 0");
      lines("told " + line, x, 0, line - 20);
    }
    strip("strip 2 0;mile 1 41 10 0", fault(17, 1));
    strip("strip 2 0;mile 1 99999 10 0", fault(17, 1));
    says("I: DOUGH 0 to 99");
    for (int dough : new int[] {0, 1, 98, 99}) doughs("told " + dough, border("strip 2 0;mile 0 20 " + dough + " 0"), dough, 10);
    strip("strip 2 0;mile 0 20 100 0", fault(20, 1));
    says("I: SALT 0 to 9");
    for (int salt : new int[] {0, 1, 8, 9}) due("told " + salt, border("strip 2 0;mile 0 20 10 " + salt).mile(0, 2), salt);
    strip("strip 2 0;mile 0 20 10 10", fault(23, 1));
    says("I: of one the last told");
    DoughBorder last = border("strip 2 0;mile 1 40 99 9;mile 0 3 4 5;mile 1 0 0 0");
    int[][] all = {{-17, 4, 5}, {-20, 0, 0}};
    for (int m = 0; m < 2; m++) for (int k = 0; k < 3; k++) due("mile " + m + " " + k, last.mile(m, k), all[m][k]);
    says("I: LINE 20, DOUGH 10, SALT 0 without");
    DoughBorder without = border("strip 10 0;mile 4 1 2 3");
    for (int m = 0; m < 10; m++) {
      due("line", without.mile(m, 0), m == 4 ? -19 : 0);
      due("dough", without.mile(m, 1), m == 4 ? 2 : 10);
      due("salt", without.mile(m, 2), m == 4 ? 3 : 0);
      due("baked", without.mile(m, 3), 0);
    }
    says("I: nothing of an earlier STRIP stays where a new one tells nothing");
    DoughBorder x = border("strip 2 3;mile 0 40 99 9;mile 1 0 0 9;warm 0 99 9;baked 0;village 1 40 1;want 0 0");
    due("strip", Texts.strip(x, "strip 3 0"), 0);
    for (int m = 0; m < 3; m++) {
      int[] due = {0, 10, 0, 0, 0};
      for (int k = 0; k < 5; k++) due("mile " + m + " " + k, x.mile(m, k), due[k]);
    }
    due("warm 0", x.warm(0), 0);
    due("warm 99", x.warm(99), 0);
    counts("anew", x, 3, 0, 0, 0);
  }

  private static void warmNights() {
    says("I: warm NUMBER NUMBER NUMBER (the first, the last NIGHT, 0 to 99, ..)");
    strip("strip 2 0;warm 0 99 9", 0);
    strip("strip 2 0;warm 99 99 9", 0);
    strip("strip 2 0;warm 100 100 9", fault(15, 1));
    strip("strip 2 0;warm 0 100 9", fault(17, 1));
    DoughBorder ends = border("strip 2 0;warm 98 99 4;warm 0 1 6");
    int[][] warm = {{0, 6}, {1, 6}, {2, 0}, {97, 0}, {98, 4}, {99, 4}, {100, 0}};
    for (int[] w : warm) due("warm " + w[0], ends.warm(w[0]), w[1]);
    says("I: not below the first");
    strip("strip 2 0;warm 5 5 1", 0);
    strip("strip 2 0;warm 5 4 1", fault(17, 1));
    strip("strip 2 0;warm 99 98 1", fault(18, 1));
    strip("strip 2 0;warm 1 0 1", fault(17, 1));
    DoughBorder one = border("strip 2 0;warm 5 5 3");
    for (int n = 4; n <= 6; n++) due("warm " + n, one.warm(n), n == 5 ? 3 : 0);
    says("I: WARMTH 1 to 9");
    strip("strip 2 0;warm 0 0 0", fault(19, 1));
    strip("strip 2 0;warm 0 0 1", 0);
    strip("strip 2 0;warm 0 0 9", 0);
    strip("strip 2 0;warm 0 0 10", fault(19, 1));
    says("I: of a NIGHT the last told");
    DoughBorder last = border("strip 2 0;warm 3 6 4;warm 5 9 2;warm 4 5 7");
    int[] due = {0, 0, 0, 4, 7, 7, 2, 2, 2, 2, 0};
    for (int n = 0; n < due.length; n++) due("warm " + n, last.warm(n), due[n]);
    says("I: 0 without, and for all above 99");
    DoughBorder none = border("strip 2 0");
    DoughBorder full = border("strip 2 0;warm 0 99 9");
    for (int n : new int[] {0, 50, 99}) {
      due("warm " + n, none.warm(n), 0);
      due("warm " + n, full.warm(n), 9);
    }
    for (int n : new int[] {100, 101, 999, 1000, Integer.MAX_VALUE}) due("warm " + n, full.warm(n), 0);
  }

  private static void bakedMiles() {
    says("I: baked NUMBER (a MILE)");
    strip("strip 2 0;baked 0;baked 1;baked 1", 0);
    strip("strip 2 0;baked 2", fault(16, 1));
    strip("strip 10 0;baked 10", fault(17, 1));
    strip("strip 2 0;baked", fault(15, 0));
    due("baked 9", border("strip 10 0;baked 9;baked 0").count(7), 513);
    DoughBorder x = border("strip 2 0;baked 1;mile 1 20 5 5");
    due("a mile told behind stays baked", x.mile(1, 3), 1);
    due("the other", x.mile(0, 3), 0);
  }

  private static void villages() {
    says("I: village NUMBER NUMBER NUMBER (a MILE; its PLACE, 0 to 40, likewise 20 more; whose it is, 0, 1)");
    strip("strip 2 0;village 1 0 0", 1);
    strip("strip 2 0;village 2 0 0", fault(18, 1));
    strip("strip 10 0;village 9 40 1", 1);
    strip("strip 10 0;village 10 40 1", fault(19, 1));
    strip("strip 2 0;village 1 41 0", fault(20, 1));
    strip("strip 2 0;village 1 40 2", fault(23, 1));
    for (int place : new int[] {0, 1, 20, 39, 40}) {
      for (int whose = 0; whose <= 1; whose++) {
        DoughBorder x = border("strip 2 0;village 1 " + place + " " + whose);
        due("mile", x.village(0, 0), 1);
        due("place", x.village(0, 1), place - 20);
        due("whose", x.village(0, 2), whose);
      }
    }
    says("I: VILLAGES 0 to 7, in the order told");
    StringBuilder eight = new StringBuilder("strip 9 0");
    for (int v = 0; v < 8; v++) eight.append(";village ").append(8 - v).append(' ').append(3 * v).append(' ').append(v % 2);
    strip(eight.toString(), 8);
    DoughBorder x = border(eight.toString());
    for (int v = 0; v < 8; v++) {
      due("mile of " + v, x.village(v, 0), 8 - v);
      due("place of " + v, x.village(v, 1), 3 * v - 20);
      due("whose is " + v, x.village(v, 2), v % 2);
      due("villages in mile " + (8 - v), x.mile(8 - v, 4), 1 << v);
    }
    due("villages in mile 0", x.mile(0, 4), 0);
    due("village 8", x.village(8, 0), -100);
    strip(eight + ";village 0 0 0", fault(eight.length() + 1, 4));
    strip(eight + ";baked 0;village 0 0 0", fault(eight.length() + 9, 4));
    strip(eight + ";want 7 0", 8);
  }

  private static void wants() {
    says("I: want NUMBER NUMBER (a VILLAGE that was told; a SIDE 0: west, 1: east)");
    strip("strip 2 0;want 0 0", fault(15, 1));
    strip("strip 2 0;want 0 0;village 0 0 0", fault(15, 1));
    strip("strip 2 0;village 0 0 0;want 0 0", 1);
    strip("strip 2 0;village 0 0 0;want 0 1", 1);
    strip("strip 2 0;village 0 0 0;want 0 2", fault(31, 1));
    strip("strip 2 0;village 0 0 0;want 1 0", fault(29, 1));
    strip("strip 2 0;village 0 0 0;want 1 0;village 0 0 0", fault(29, 1));
    String eight = "strip 2 0" + ";village 0 0 0".repeat(8);
    strip(eight + ";want 7 1", 8);
    strip(eight + ";want 8 1", fault(eight.length() + 6, 1));
    says("I: WANTS 0 to 7");
    String wants = eight + ";want 7 1".repeat(8);
    DoughBorder x = new DoughBorder();
    due("eight wants", Texts.strip(x, wants), 8);
    due("wants", x.count(3), 8);
    strip(wants + ";want 0 0", fault(wants.length() + 1, 4));
    strip(wants + ";baked 0", 8);
    // the eighth is heard: of two sides of one village no push makes both so
    String seven = "strip 2 0;village 0 10 0" + ";want 0 0".repeat(7);
    due("seven", border(seven).push(1, 0), 0);
    due("the eighth", border(seven + ";want 0 1").push(1, 0), -2);
    says("I: It is NIGHT 0");
    DoughBorder y = border("strip 2 0");
    y.night();
    due("night", y.count(6), 1);
    due("strip", Texts.strip(y, "strip 2 0"), 0);
    due("night", y.count(6), 0);
  }

  private static void numbers() {
    says("I: NUMBER (1 to 5 digits, as far as digits go on), in strips");
    strip("strip 00002 00003", 0);
    strip("strip 000002 0", fault(6, 1));
    strip("strip 2 000000", fault(8, 1));
    strip("strip 20", fault(6, 1));
    strip("strip 2 0;mile 1 40 99 9", 0);
    strip("strip 2 0;mile 1409 9 9", fault(15, 1));
    strip("strip 2 0;warm 00099 00099 00009", 0);
    strip("strip 2 0;warm 99 0000099 9", fault(18, 1));
    due("leading noughts", border("strip 00010 00001;baked 00008").count(7), 256);
    strip("strip2 0", 0);
    strip("strip x 0", fault(6, 0));
    strip("strip -2 0", fault(6, 0));
    strip("strip +2 0", fault(6, 0));
  }

  /** What comes of a byte between strip and its first number. */
  private static int betweenStripAndTwo(int sign) {
    if (sign == ' ' || sign == '0') return 0;
    if (sign > '0' && sign <= '9') return fault(5, 1);
    return sign >= 'a' && sign <= 'z' ? fault(0, 0) : fault(5, 0);
  }

  private static void blanksAndBytes() {
    says("I: Blanks (32) stand between as one likes; a byte that can't stand there");
    strip("   strip   2   0   ;   baked   1   ", 0);
    strip("strip2 0;baked1;mile1 20 10 0", 0);
    strip("st rip 2 0", fault(0, 0));
    strip("strip 2 0;mile 0 2 0 1 0", fault(23, 0));
    for (int sign = 0; sign < 256; sign++) {
      strip("strip" + (char) sign + "2 0", betweenStripAndTwo(sign));
      boolean blank = sign == ' ';
      strip((char) sign + "", fault(blank ? 1 : 0, 0));
      rule((char) sign + "", fault(blank ? 1 : 0, 0));
    }
    for (int sign = 0; sign < 256; sign++) {
      boolean fine = sign == ' ';
      boolean number = sign >= '0' && sign <= '9';
      // behind a whole clause: a blank, or one digit more for its last number
      strip("strip 2 0" + (char) sign, fine || sign == '0' || sign == '1' || sign == '2' || sign == '3' ? 0
          : number ? fault(8, 1) : fault(sign == ';' ? 10 : 9, 0));
    }
  }

  private static void stripFaults() {
    says("I: FAULTS, the first along the text");
    strip("strip 1 9", fault(6, 1));
    strip("strip 2 9;strip", fault(8, 1));
    strip("strip 2 0;mile 2 41 100 10", fault(15, 1));
    strip("strip 2 0;mile 1 41 100 10", fault(17, 1));
    strip("strip 2 0;mile 1 40 100 10", fault(20, 1));
    strip("strip 2 0;mile 1 40 99 10;nile", fault(23, 1));
    strip("strip 2 0;nile;strip 2 0", fault(10, 0));
    strip("strip 2 0;warm 100 5 0", fault(15, 1));
    strip("strip 2 0;warm 9 5 0", fault(17, 1));
    strip("strip 2 0;village 2 41 2", fault(18, 1));
    says("I: FAULTS 0: a byte or WORD that can't stand there, or the end (behind the last byte)");
    strip("strip 2 0;nile 0 0 0 0", fault(10, 0));
    strip("strip 2 0;miles 0 0 0 0", fault(10, 0));
    strip("strip 2 0;mil 0 0 0 0", fault(10, 0));
    strip("strip 2 0;creep 1", fault(10, 0));
    strip("strip 2 0;Mile 0 0 0 0", fault(10, 0));
    strip("strip 2 0;mile 0 0 0", fault(20, 0));
    strip("strip 2 0;mile 0 0 0  ", fault(22, 0));
    strip("strip 2 0;mile 0 0 0;", fault(20, 0));
    strip("strip 2 0;mile 0 0 0 0 0", fault(23, 0));
    strip("strip 2 0;mile 0 0 0 0 baked 0", fault(23, 0));
    strip("strip 2 0;warm 0 0", fault(18, 0));
    strip("strip 2 0;baked", fault(15, 0));
    strip("strip 2 0;baked 0 0", fault(18, 0));
    strip("strip 2 0;village 0 0", fault(21, 0));
    strip("strip 2 0;village 0 0 0;want 0", fault(30, 0));
    strip("strip 2 0;3", fault(10, 0));
    strip("strip 2 0;100000", fault(10, 0));
    strip("strip 2 0 100000", fault(10, 0));
    strip("strip 2 0,baked 0", fault(9, 0));
    says("I: FAULTS 4: .. (at its first byte)");
    strip("strip 2 0;   strip", fault(13, 4));
    strip("  baked 0", fault(2, 4));
    String villages = "strip 2 0" + ";village 0 0 0".repeat(8);
    strip(villages + ";  village", fault(villages.length() + 3, 4));
    strip(villages + ";want 0 0".repeat(8) + ";  want", fault(villages.length() + 72 + 3, 4));
    strip("strip 2 0" + ";baked 0".repeat(39) + ";  baked", fault(321 + 3, 4));
    says("I: Of one place the least, in strips");
    String forty = "strip 2 0" + ";baked 0".repeat(39);
    strip(forty + ";", fault(forty.length() + 1, 0));
    strip(forty + ";  ", fault(forty.length() + 3, 0));
    strip(forty + ";baker 0", fault(forty.length() + 1, 0));
    strip(forty + ";7", fault(forty.length() + 1, 0));
    strip("strips 2 0", fault(0, 0));
    strip("creep 1", fault(0, 0));
  }

  // ---- rules

  private static int creep(String rule) {
    return border("strip 2 0", rule).ahead(0, 1, 0);
  }

  private static void ruleClauses() {
    says("I: RULES: 12 CLAUSES at most");
    String eleven = "creep 1 if 1=2" + ";creep 1 if 1=2".repeat(10);
    due("the 12th is heard", creep(eleven + ";creep 2"), 2);
    rule(eleven + ";creep 2;creep 1", fault(eleven.length() + 9, 4));
    rule(eleven + ";creep 2;  creep", fault(eleven.length() + 11, 4));
    rule(eleven + ";creep 2;", fault(eleven.length() + 9, 0));
    rule("", fault(0, 0));
    rule(" ", fault(1, 0));
    rule("creep 1", 0);
    rule("creep 1;", fault(8, 0));
    rule(";creep 1", fault(0, 0));
    rule("creep 1;;creep 1", fault(8, 0));
  }

  private static void ruleNumber() {
    says("I: NUMBER (1 to 5 digits, as far as digits go on), in rules");
    due("creep 0", creep("creep 0"), 0);
    due("creep 2", creep("creep 2"), 2);
    due("creep 00002", creep("creep 00002"), 2);
    due("creep 99999-99998", creep("creep 99999-99998"), 1);
    due("creep 1 if 99999=9999*10+9", creep("creep 1 if 99999=9999*10+9"), 1);
    rule("creep 99999", 0);
    rule("creep 100000", fault(6, 1));
    rule("creep 000000", fault(6, 1));
    rule("creep 1 if 1=123456", fault(13, 1));
    rule("creep 12 34", fault(9, 0));
  }

  private static void grammar() {
    says("I: creep SUM [ if TEST ]");
    rule("creep", fault(5, 0));
    rule("creep1if1=1", 0);
    rule("creep 1 if", fault(10, 0));
    rule("creep 1 if 1=1 if 1=1", fault(15, 0));
    rule("creep if 1=1", fault(6, 0));
    rule("creep 1 creep 1", fault(8, 0));
    rule("creep 1 and 1=1", fault(8, 0));
    says("I: TEST: PART { or PART }. PART: FACT { and FACT }");
    rule("creep 1 if 1=1 or", fault(17, 0));
    rule("creep 1 if 1=1 and", fault(18, 0));
    rule("creep 1 if or 1=1", fault(11, 0));
    rule("creep 1 if 1=1 and or 1=1", fault(19, 0));
    due("or is looser than and", creep("creep 1 if 1=1 or 1=1 and 1=2"), 1);
    due("and is tighter than or", creep("creep 1 if 1=2 and 1=1 or 1=1"), 1);
    due("brackets", creep("creep 1 if [1=1 or 1=1] and 1=2"), 0);
    due("none of three", creep("creep 1 if 1=2 or 1=2 or 1=2"), 0);
    due("the third of three", creep("creep 1 if 1=2 or 1=2 or 1=1"), 1);
    due("but for the third of three", creep("creep 1 if 1=1 and 1=1 and 1=2"), 0);
    says("I: FACT: not FACT | [ TEST ] | SUM SIGN SUM, SIGN one of < <= = >= >");
    String[] signs = {"<", "<=", "=", ">=", ">"};
    int[][] holds = {{1, 0, 0}, {1, 1, 0}, {0, 1, 0}, {0, 1, 1}, {0, 0, 1}};
    for (int k = 0; k < 5; k++) {
      for (int left = 1; left <= 3; left++) {
        String test = left + signs[k] + "2";
        due(test, creep("creep 1 if " + test), holds[k][left - 1]);
        due("not " + test, creep("creep 1 if not " + test), 1 - holds[k][left - 1]);
        due("not [" + test + "]", creep("creep 1 if not[ " + test + " ]"), 1 - holds[k][left - 1]);
      }
    }
    due("not binds one fact", creep("creep 1 if not 1=1 or 1=1"), 1);
    due("not binds one fact", creep("creep 1 if not 1=2 and 1=2"), 0);
    rule("creep 1 if 1==1", fault(13, 0));
    rule("creep 1 if 1=<1", fault(13, 0));
    rule("creep 1 if 1=>1", fault(13, 0));
    rule("creep 1 if 1<>1", fault(13, 0));
    rule("creep 1 if 1<<1", fault(13, 0));
    rule("creep 1 if 1<==1", fault(14, 0));
    rule("creep 1 if 1< =1", fault(14, 0));
    rule("creep 1 if 1!1", fault(12, 0));
    rule("creep 1 if 1<1<1", fault(14, 0));
    rule("creep 1 if [1=1", fault(15, 0));
    rule("creep 1 if 1=1]", fault(14, 0));
    rule("creep 1 if []", fault(12, 0));
    rule("creep 1 if [1]=1", fault(13, 0));
    rule("creep 1 if not", fault(14, 0));
    rule("creep 1 if 1=not 1=1", fault(13, 0));
    says("I: SUM: TERM { (+ or -) TERM }. TERM: VALUE { (* or / or %) VALUE }");
    due("2+3*4", creep("creep 1 if 2+3*4=14"), 1);
    due("2*3+4", creep("creep 1 if 2*3+4=10"), 1);
    due("20-3-4", creep("creep 1 if 20-3-4=13"), 1);
    due("20-3+4", creep("creep 1 if 20-3+4=21"), 1);
    due("24/4/3", creep("creep 1 if 24/4/3=2"), 1);
    due("24/5*5", creep("creep 1 if 24/5*5=20"), 1);
    due("29%10%4", creep("creep 1 if 29%10%4=1"), 1);
    due("2*29%10", creep("creep 1 if 2*29%10=8"), 1);
    rule("creep 1+", fault(8, 0));
    rule("creep 1*", fault(8, 0));
    rule("creep +1", fault(6, 0));
    rule("creep -1", fault(6, 0));
    rule("creep 1--1", fault(8, 0));
    rule("creep 1*-1", fault(8, 0));
    rule("creep 1++1", fault(8, 0));
    rule("creep (1)", fault(6, 0));
    rule("creep [1]", fault(6, 0));
  }

  private static void words() {
    says("I: WORDS (small letters, as far as these go on)");
    for (String word : new String[] {"mile", "line", "dough", "salt", "damp", "warm", "night", "above", "below",
        "west", "east", "crust"}) {
      rule("creep " + word, 0);
      rule("creep 1 if " + word + "=" + word, 0);
      rule("creep " + word + "s", fault(6, 0));
      rule("creep " + word.substring(0, word.length() - 1), fault(6, 0));
      rule("creep " + word + "1", fault(6 + word.length(), 0));
      rule("creep " + word.toUpperCase(), fault(6, 0));
      rule("creep" + word, fault(0, 0));
    }
    for (String word : new String[] {"strip", "village", "want", "baked", "creep", "if", "not", "and", "or"}) {
      rule("creep " + word, fault(6, 0));
    }
    rule("creep 1 iff 1=1", fault(8, 0));
    rule("creep 1 if 1=1 andnot 1=1", fault(15, 0));
    rule("creep 1 if notnot 1=1", fault(11, 0));
  }

  private static void arithmetic() {
    says("I: / is towards 0, % its rest, both 0 by 0");
    String at = "strip 2 0;mile 0 13 10 0;mile 1 13 10 0";
    String[] holds = {"7/2=3", "7%2=1", "6/2=3", "6%2=0", "line/2=0-3", "line%2=0-1", "7/line=0-1", "7%line=0",
        "20/line=0-2", "20%line=6", "8%line=1", "line/line=1", "line%line=0", "line/3=0-2", "line%3=0-1",
        "7/0=0", "7%0=0", "line/0=0", "line%0=0", "0/0=0", "0%0=0", "7/salt=0", "7%salt=0", "1/2=0", "1%2=1",
        "0/7=0", "0%7=0", "3+7/0*5=3", "99999/1=99999", "99999%99999=0"};
    for (String test : holds) due(test, border(at, "creep 1 if " + test).ahead(0, 1, 0), -6);
  }

  private static void wrapAround() {
    says("I: all goes round in 64 bits");
    String minSixtyFour = "32768*32768*32768*32768*8";
    due("2 to the 63rd is the least", creep("creep " + minSixtyFour), -3);
    due("one less is the greatest", creep("creep " + minSixtyFour + "-1"), 3);
    due("and one more again the least", creep("creep " + minSixtyFour + "-1+1"), -3);
    due("2 to the 62nd is not yet round", creep("creep 32768*32768*32768*32768*4"), 3);
    due("2 to the 64th is 0", creep("creep " + minSixtyFour + "*2"), 0);
    due("2 to the 64th and 2", creep("creep " + minSixtyFour + "*2+2"), 2);
    due("compared", creep("creep 1 if " + minSixtyFour + "<0 and " + minSixtyFour + "-1>0"), 1);
    // numbers beyond 32 bits are held as they are, not as what is left of them
    due("2 to the 31st", creep("creep 32768*65536"), 3);
    due("2 to the 32nd", creep("creep 65536*65536"), 3);
    due("less than -2 to the 31st", creep("creep 0-32768*65536-1"), -3);
    due("-2 to the 32nd", creep("creep 0-65536*65536"), -3);
    due("2 to the 32nd is not 0", creep("creep 1 if 65536*65536=0"), 0);
    String west = "strip 2 0;mile 0 19 10 0;mile 1 19 10 0";
    due("the least / -1", border(west, "creep " + minSixtyFour + "/line").ahead(0, 1, 0), -4);
    due("the least % -1", border(west, "creep " + minSixtyFour + "%line").ahead(0, 1, 0), -1);
    due("the least * -1", border(west, "creep " + minSixtyFour + "*line").ahead(0, 1, 0), -4);
  }

  private static void depth() {
    says("I: [ and not lie within one another 10 deep at most");
    rule("creep 1 if " + "[".repeat(10) + "1=1" + "]".repeat(10), 0);
    rule("creep 1 if " + "[".repeat(11) + "1=1" + "]".repeat(11), fault(21, 2));
    rule("creep 1 if " + "not ".repeat(10) + "1=1", 0);
    rule("creep 1 if " + "not ".repeat(11) + "1=1", fault(51, 2));
    rule("creep 1 if " + "[not ".repeat(5) + "1=1" + "]".repeat(5), 0);
    rule("creep 1 if " + "[not ".repeat(5) + "[1=1]" + "]".repeat(5), fault(36, 2));
    rule("creep 1 if " + "not[".repeat(5) + "not 1=1" + "]".repeat(5), fault(31, 2));
    due("ten nots", creep("creep 1 if " + "not ".repeat(10) + "1=1"), 1);
    due("nine nots", creep("creep 1 if " + "not ".repeat(9) + "1=1"), 0);
    due("nine nots in a bracket", creep("creep 1 if [" + "not ".repeat(9) + "1=2]"), 1);
    // those that lie beside one another are not within one another
    rule("creep 1 if not 1=1" + " and not 1=1".repeat(11), 0);
    rule("creep 1 if [1=1]" + " or [1=1]".repeat(11), 0);
    rule("creep 1 if " + "[".repeat(10) + "1=1" + "]".repeat(10) + " and " + "[".repeat(10) + "1=1" + "]".repeat(10), 0);
    rule("creep 1 if " + "[".repeat(9) + "not 1=1 and not 1=1 or not 1=1" + "]".repeat(9), 0);
    rule("creep 1 if " + "[".repeat(9) + "not 1=1 and not not 1=1" + "]".repeat(9), fault(36, 2));
    rule("creep 1 if " + "[".repeat(10) + "1=1" + "]".repeat(10) + ";creep 1 if " + "[".repeat(10) + "1=1" + "]".repeat(10), 0);
    says("I: FAULTS 2: too deep (at the sign that opens, or the word not)");
    rule("creep 1 if " + "[".repeat(10) + "  [1=1", fault(23, 2));
    rule("creep 1 if " + "[".repeat(10) + "  not 1=1", fault(23, 2));
    rule("creep 1 if " + "[".repeat(10) + "nots 1=1", fault(21, 0));
    rule("creep 1 if " + "[".repeat(10) + "1=1 and [", fault(29, 2));
    rule("creep 1 if " + "[".repeat(11), fault(21, 2));
  }

  private static void valuesAndFacts() {
    says("I: at most 60 VALUES (of SUMS) and FACTS made of a SIGN, together");
    rule("creep 1" + "+1".repeat(59), 0);
    rule("creep 1" + "+1".repeat(60), fault(126, 3));
    rule("creep 1" + "+1".repeat(58) + "+line", 0);
    rule("creep 1" + "+1".repeat(59) + "+line", fault(126, 3));
    rule("creep 1" + "+1".repeat(59) + "  *  line", fault(130, 3));
    due("the 60th is heard", creep("creep 0" + "+0".repeat(58) + "+2"), 2);
    // a fact of two values is three: 3 and 19 times 3 are 60
    String nineteen = " if 1=1" + " and 1=1".repeat(18);
    rule("creep 1+1+1" + nineteen, 0);
    rule("creep 1+1+1" + nineteen + " and 1=1", fault(11 + nineteen.length() + 5, 3));
    says("I: FAULTS 3: one VALUE or FACT too many (at its first byte; of a FACT at its SIGN)");
    rule("creep 1+1" + nineteen + " and 1=1", fault(9 + nineteen.length() + 6, 3));
    rule("creep 1+1" + nineteen + " and 1 <=1", fault(9 + nineteen.length() + 7, 3));
    rule("creep 1" + nineteen + " and 1=1", fault(7 + nineteen.length() + 7, 3));
    rule("creep 1" + nineteen + " and 1>=line", fault(7 + nineteen.length() + 8, 3));
    rule("creep 1+1+1" + nineteen + " and not [night=1", fault(11 + nineteen.length() + 10, 3));
    rule("creep 1+1+1" + nineteen + ";creep 1", fault(11 + nineteen.length() + 7, 3));
    // brackets, nots, ands and ors are not counted
    rule("creep 1+1+1 if [1=1]" + " and [1=1]".repeat(9) + " or not 1=1".repeat(9), 0);
    rule("creep 1" + ";creep 1".repeat(11), 0);
    // a text that is refused leaves no count behind
    DoughBorder x = new DoughBorder();
    due("too many", Texts.rule(x, "creep 1" + "+1".repeat(60)), fault(126, 3));
    due("just as many", Texts.rule(x, "creep 1" + "+1".repeat(59)), 0);
    due("just as many", Texts.rule(x, "creep 1" + "+1".repeat(59)), 1);
    DoughBorder y = border("strip 2 0");
    for (int k = 0; k < 40; k++) due("too many", Texts.rule(y, "creep 1" + "+1".repeat(60)), fault(126, 3));
    due("a rule behind many faults", Texts.rule(y, "creep 2 if 1=1 and not 1=2;creep 3"), 0);
    y.force(0);
    due("it is heard", y.ahead(0, 1, 0), 2);
  }

  private static void ruleFaults() {
    says("I: FAULTS, the first along the text, in rules");
    rule("creep 100000+x", fault(6, 1));
    rule("creep x+100000", fault(6, 0));
    rule("creep 1 if 1;100000", fault(12, 0));
    rule("creep 1 if " + "[".repeat(11) + "100000", fault(21, 2));
    rule("creep 1 if 100000=" + "[".repeat(11), fault(11, 1));
    says("I: FAULTS 0: a byte or WORD that can't stand there, or the end, in rules");
    rule("creep", fault(5, 0));
    rule("creep  ", fault(7, 0));
    rule("creep 1 if 1=", fault(13, 0));
    rule("creep 1 if 1", fault(12, 0));
    rule("creep 1 if 1;", fault(12, 0));
    rule("creep 1 if 1 and", fault(13, 0));
    rule("creeps 1", fault(0, 0));
    rule("crept 1", fault(0, 0));
    rule("strip 2 0", fault(0, 0));
    rule("creep 1;strip 2 0", fault(8, 0));
    rule("creep 1;if 1=1", fault(8, 0));
    rule("creep 1:creep 1", fault(7, 0));
    for (int sign = 0; sign < 256; sign++) {
      boolean digit = sign >= '0' && sign <= '9';
      boolean goesOn = sign == '+' || sign == '-' || sign == '*' || sign == '/' || sign == '%' || sign == ';';
      rule("creep 1" + (char) sign, sign == ' ' || digit ? 0 : fault(goesOn ? 8 : 7, 0));
      boolean compares = sign == '<' || sign == '=' || sign == '>';
      boolean joins = goesOn && sign != ';';
      rule("creep 1 if 1" + (char) sign, fault(sign == ' ' || digit || compares || joins ? 13 : 12, 0));
    }
  }

  private static void leastOfOnePlace() {
    says("I: Of one place the least, in rules");
    String sixty = "creep 1" + "+1".repeat(59);
    rule(sixty + "+", fault(126, 0));
    rule(sixty + "+lin", fault(126, 0));
    rule(sixty + "+[", fault(126, 0));
    rule(sixty + "+100000", fault(126, 1));
    rule(sixty + "+99999", fault(126, 3));
    String fiftyNine = "creep 1" + "+1".repeat(58);
    rule(fiftyNine + " if 1", fault(fiftyNine.length() + 5, 0));
    rule(fiftyNine + " if 1;", fault(fiftyNine.length() + 5, 0));
    rule(fiftyNine + " if 1==", fault(fiftyNine.length() + 5, 3));
    String twelve = "creep 1" + ";creep 1".repeat(11);
    rule(twelve + ";", fault(twelve.length() + 1, 0));
    rule(twelve + ";creeps", fault(twelve.length() + 1, 0));
    rule(twelve + ";5", fault(twelve.length() + 1, 0));
    rule(twelve + ";creep", fault(twelve.length() + 1, 4));
    rule("creep 1 100000", fault(8, 0));
    rule("creep 100000 if", fault(6, 1));
  }

  private static void sixRules() {
    says("5: The TAPE, which is empty then, is a RULE: its number");
    DoughBorder x = border("strip 2 0");
    for (int k = 0; k < 6; k++) {
      due("a fault", Texts.rule(x, "creep"), fault(5, 0));
      due("a fault takes no number", x.count(4), k);
      due("rule " + k, Texts.rule(x, "creep " + (k - 3 < 0 ? "0-" + (3 - k) : "" + (k - 3))), k);
      due("bytes", x.count(12), 0);
    }
    for (int k = 0; k < 6; k++) {
      x.force(k);
      due("by rule " + k, x.ahead(0, 1, 0), k - 3);
    }
    says("5: NONE, and nothing happens: there are 6");
    Texts.tell(x, "creep 3");
    due("a seventh", x.rule(), -1);
    due("rules", x.count(4), 6);
    due("bytes", x.count(12), 7);
    due("no rule 6", x.force(6), -2);
    due("the last is as it was", x.ahead(0, 1, 0), 2);
    Texts.tell(x, ";");
    due("a faulty seventh", x.rule(), -1);
    due("bytes", x.count(12), 8);
    due("the tape is as it was", x.strip(), fault(0, 0));
    due("an empty seventh", x.rule(), -1);
  }
}
