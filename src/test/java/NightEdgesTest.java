/** Edges of nights and acts: promises 6 to 16, and part II of the terms. */
public final class NightEdgesTest extends Checks {
  // NIGHT 999 lies beyond the 512 calls of an object, for each night is a call, so it has no row here.

  public static void main(String[] args) {
    forces();
    milesAndVillages();
    warmth();
    sides();
    rising();
    creepsAllAtOnce();
    creepsHeld();
    clausesInOrder();
    withoutRule();
    wordsOfMiles();
    bakedMiles();
    sags();
    linesHeld();
    crossings();
    nightNumbers();
    horses();
    salt();
    sugar();
    slice();
    bake();
    refusedActs();
    undone();
    lastTwenty();
    finish();
  }

  private static void forces() {
    says("6: A RULE is IN FORCE (NONE: none): which was");
    DoughBorder x = border("strip 2 3");
    due("none for none", x.force(-1), -1);
    for (int k = 0; k < 6; k++) Texts.rule(x, "creep 0-" + k);
    due("the first", x.force(0), -1);
    due("creeps 0", x.ahead(0, 1, 0), 0);
    due("the last", x.force(5), 0);
    due("creeps -3", x.ahead(0, 1, 0), -3);
    due("the same again", x.force(5), 5);
    due("none", x.force(-1), 5);
    due("by damp alone", x.ahead(0, 1, 0), 3);
    due("in force", x.count(5), -1);
    says("6: -2, and nothing happens, if there is none such");
    due("before all rules", new DoughBorder().force(0), -2);
    for (int rule : new int[] {2, 3, 6, -2, -3, Integer.MAX_VALUE, Integer.MIN_VALUE}) {
      idle(Checks::rich, "force " + rule, y -> y.force(rule), -2);
    }
    DoughBorder y = border("strip 2 0");
    Texts.rule(y, "creep");
    due("a text at fault is none", y.force(0), -2);
  }

  private static void milesAndVillages() {
    says("7: Of a MILE what 0 .. 4. -100 without these");
    DoughBorder x = border("strip 10 0;mile 9 40 99 9;mile 0 0 1 2;baked 9;village 9 40 1;village 9 39 0;village 0 0 0");
    int[] last = {20, 99, 9, 1, 3};
    int[] first = {-20, 1, 2, 0, 4};
    for (int k = 0; k <= 4; k++) {
      due("mile 9 " + k, x.mile(9, k), last[k]);
      due("mile 0 " + k, x.mile(0, k), first[k]);
      due("mile 10 " + k, x.mile(10, k), -100);
      due("mile -1 " + k, x.mile(-1, k), -100);
      due("without a strip " + k, new DoughBorder().mile(0, k), -100);
    }
    for (int what : new int[] {-1, 5, Integer.MAX_VALUE, Integer.MIN_VALUE}) due("mile 0 " + what, x.mile(0, what), -100);
    for (int mile : new int[] {Integer.MAX_VALUE, Integer.MIN_VALUE}) due("mile " + mile, x.mile(mile, 0), -100);
    due("mile 2 of two", border("strip 2 0").mile(2, 0), -100);
    says("8: Of a VILLAGE what 0 .. 4. -100 without these");
    int[] two = {0, -20, 0, 2, 0};
    int[] none = {9, 20, 1, 2, 0};
    for (int k = 0; k <= 4; k++) {
      due("village 2 " + k, x.village(2, k), two[k]);
      due("village 0 " + k, x.village(0, k), none[k]);
      due("village 3 " + k, x.village(3, k), -100);
      due("village -1 " + k, x.village(-1, k), -100);
      due("without villages " + k, border("strip 2 0").village(0, k), -100);
    }
    for (int what : new int[] {-1, 5, Integer.MAX_VALUE, Integer.MIN_VALUE}) due("village 0 " + what, x.village(0, what), -100);
    for (int v : new int[] {8, Integer.MAX_VALUE, Integer.MIN_VALUE}) due("village " + v, x.village(v, 0), -100);
    DoughBorder eight = border("strip 2 0" + ";village 1 7 1".repeat(8));
    due("village 7", eight.village(7, 1), -13);
    due("village 8", eight.village(8, 1), -100);
    due("villages in mile 1", eight.mile(1, 4), 255);
  }

  private static void warmth() {
    says("9: WARMTH of a NIGHT; NONE below 0, or without a STRIP");
    DoughBorder x = border("strip 2 0;warm 0 0 1;warm 99 99 9");
    int[][] due = {{-1, -1}, {Integer.MIN_VALUE, -1}, {0, 1}, {1, 0}, {98, 0}, {99, 9}, {100, 0}, {999, 0}, {1000, 0}};
    for (int[] d : due) due("warm " + d[0], x.warm(d[0]), d[1]);
    for (int n : new int[] {-1, 0, 99, 100}) due("without a strip " + n, new DoughBorder().warm(n), -1);
    x.night();
    due("not from now on, but by its number", x.warm(0), 1);
  }

  private static void sides() {
    says("II: A VILLAGE lies WEST, if its PLACE is less than the LINE of its MILE, EAST, if it is more, else ON it");
    for (int line : new int[] {0, 1, 20, 39, 40}) {
      for (int place = Math.max(0, line - 1); place <= Math.min(40, line + 1); place++) {
        DoughBorder x = border("strip 2 0;mile 1 " + line + " 10 0;village 1 " + place + " 0");
        due("place " + place + ", line " + line, x.village(0, 3), place < line ? 0 : place > line ? 1 : 2);
      }
    }
    DoughBorder far = border("strip 2 0;mile 0 0 10 0;mile 1 40 10 0;village 0 40 0;village 1 0 0");
    due("by the line of its own mile", far.village(0, 3), 1);
    due("by the line of its own mile", far.village(1, 3), 0);
  }

  private static void rising() {
    says("II (1): each MILE that is not baked has DOUGH more by the WARMTH of the NIGHT (99 at most)");
    DoughBorder x = border("strip 6 0;mile 0 20 0 0;mile 1 20 89 0;mile 2 20 90 0;mile 3 20 91 0;mile 4 20 99 0;"
        + "mile 5 20 50 0;baked 5;warm 0 0 9;warm 2 2 1", "creep 0");
    x.night();
    doughs("warmth 9", x, 9, 98, 99, 99, 99, 50);
    x.night();
    doughs("warmth 0", x, 9, 98, 99, 99, 99, 50);
    x.night();
    doughs("warmth 1", x, 10, 99, 99, 99, 99, 50);
    x.night();
    doughs("warmth 0", x, 10, 99, 99, 99, 99, 50);
    says("II (1): no WARMTH above NIGHT 99");
    DoughBorder y = border("strip 2 0;warm 99 99 9", "creep 0");
    for (int k = 0; k < 99; k++) y.night();
    doughs("ahead of night 99", y, 10, 10);
    y.night();
    doughs("behind night 99", y, 19, 19);
    y.night();
    doughs("behind night 100", y, 19, 19);
    due("night", y.count(6), 101);
  }

  private static void creepsAllAtOnce() {
    says("II (2): each MILE creeps, all at once, by how all was behind (1)");
    DoughBorder x = border("strip 2 0;mile 0 21 0 0;mile 1 22 0 0", "creep below if mile=0;creep above");
    x.night();
    lines("by the lines ahead of it", x, 3, 3);
    DoughBorder risen = border("strip 2 0;mile 0 20 7 0;mile 1 20 7 0;warm 0 0 2", "creep dough-7");
    risen.night();
    lines("by the dough behind (1)", risen, 2, 2);
    DoughBorder plain = border("strip 2 0;mile 0 20 19 0;mile 1 20 18 0;warm 0 0 1");
    plain.night();
    lines("19 and 1 are 20, 18 and 1 are not", plain, 1, 0);
    DoughBorder full = border("strip 2 0;mile 0 20 99 4;mile 1 20 99 4;warm 0 0 9", "creep dough-98");
    full.night();
    lines("99 at most", full, 1, 1);
    DoughBorder sides = border("strip 2 0;village 0 20 0;village 1 19 0", "creep 2 if west=1;creep 0-1 if east=1;creep 1");
    sides.night();
    lines("villages by the lines ahead of it", sides, 1, 2);
  }

  private static void creepsHeld() {
    says("II (2): as many feet east as the SUM (less than 0: west), held to -3 to 3");
    int[][] sums = {{0, 0}, {1, 1}, {2, 2}, {3, 3}, {4, 3}, {99999, 3}};
    for (int[] s : sums) {
      DoughBorder east = border("strip 2 0", "creep " + s[0]);
      DoughBorder west = border("strip 2 0", "creep 0-" + s[0]);
      east.night();
      west.night();
      lines("creep " + s[0], east, s[1], s[1]);
      lines("creep 0-" + s[0], west, -s[1], -s[1]);
    }
  }

  private static void clausesInOrder() {
    says("II (2): the SUM of its first CLAUSE without a TEST, or whose TEST holds (0 without)");
    String[][] cases = {{"creep 1;creep 2", "1"}, {"creep 1 if 1=2;creep 2", "2"}, {"creep 1 if 1=1;creep 2", "1"},
        {"creep 1 if 1=2;creep 2 if 1=1;creep 3", "2"}, {"creep 1 if 1=2", "0"}, {"creep 1 if 1=2;creep 2 if 2=1", "0"},
        {"creep 0 if 1=1;creep 2", "0"}, {"creep 0;creep 2", "0"}};
    for (String[] c : cases) {
      DoughBorder x = border("strip 2 3;mile 0 20 99 0", c[0]);
      x.night();
      int feet = Integer.parseInt(c[1]);
      lines("'" + c[0] + "'", x, feet, feet);
    }
  }

  private static void withoutRule() {
    says("II (2): without a RULE by DOUGH / 20 and DAMP less SALT, held likewise");
    int[][] cases = {{0, 0, 0, 0}, {19, 0, 0, 0}, {20, 0, 0, 1}, {39, 0, 0, 1}, {40, 0, 0, 2}, {59, 0, 0, 2},
        {60, 0, 0, 3}, {79, 0, 0, 3}, {80, 0, 0, 3}, {99, 3, 0, 3}, {80, 0, 1, 3}, {99, 0, 2, 2}, {99, 3, 4, 3},
        {99, 3, 5, 2}, {99, 3, 9, -2}, {0, 1, 0, 1}, {0, 3, 0, 3}, {19, 3, 1, 2}, {0, 0, 1, -1}, {0, 0, 3, -3},
        {0, 0, 4, -3}, {0, 0, 9, -3}, {19, 0, 2, -2}, {20, 0, 2, -1}};
    for (int[] c : cases) {
      String mile = " 20 " + c[0] + " " + c[2];
      DoughBorder x = border("strip 2 " + c[1] + ";mile 0" + mile + ";mile 1" + mile);
      x.night();
      lines("dough " + c[0] + ", damp " + c[1] + ", salt " + c[2], x, c[3], c[3]);
    }
  }

  private static void crept(String strip, String word, int... want) {
    DoughBorder x = border(strip, "creep " + word);
    x.night();
    lines("creep " + word, x, want);
  }

  private static void wordsOfMiles() {
    says("I: WORDS: mile, line (-20 to 20), dough, salt, damp, warm, night");
    crept("strip 3 0", "mile", 0, 1, 2);
    crept("strip 10 0", "mile/3", 0, 0, 0, 1, 1, 1, 2, 2, 2, 3);
    crept("strip 2 0;mile 0 21 0 0;mile 1 19 0 0", "line", 2, -2);
    due("line -20", border("strip 2 0;mile 0 0 0 0;mile 1 0 0 0", "creep 1 if line=0-20").ahead(0, 1, 0), -19);
    due("line 20", border("strip 2 0;mile 0 40 0 0;mile 1 40 0 0", "creep 0-1 if line=20").ahead(0, 1, 0), 19);
    crept("strip 2 0;mile 0 20 2 0;mile 1 20 0 0", "dough", 2, 0);
    crept("strip 2 0;mile 0 20 5 3;mile 1 20 5 1", "salt", 3, 1);
    crept("strip 2 2", "damp", 2, 2);
    crept("strip 2 0;warm 0 0 2;warm 1 1 1", "warm", 2, 2);
    DoughBorder nights = border("strip 2 0", "creep night");
    int[] at = {0, 1, 3, 6, 9};
    for (int n = 0; n < 5; n++) {
      nights.night();
      lines("behind night " + n, nights, at[n], at[n]);
    }
    DoughBorder warm = border("strip 2 0;warm 99 99 1", "creep warm+1 if night=99;creep warm+1 if night=100");
    due("behind night 98", warm.ahead(0, 99, 0), 0);
    due("behind night 99", warm.ahead(0, 100, 0), 2);
    warm.night();
    due("behind night 100", warm.ahead(0, 100, 0), 3);
    says("I: above, below (LINES of the MILE ahead of it, behind it; its own, if there is none)");
    String three = "strip 3 0;mile 0 21 0 0;mile 1 22 0 0;mile 2 18 0 0";
    crept(three, "above", 2, 3, 0);
    crept(three, "below", 3, 0, -4);
    says("I: west, east (VILLAGES in it that lie so)");
    String four = "strip 2 0;village 0 19 0;village 0 18 1;village 0 20 0;village 0 21 0;village 1 21 0;village 1 40 1";
    crept(four, "west", 2, 0);
    crept(four, "east", 1, 2);
    says("I: crust (baked ones of the MILES beside)");
    crept("strip 5 0;baked 1;baked 3", "crust", 1, 0, 2, 0, 1);
    crept("strip 4 0;baked 0", "crust", 0, 1, 0, 0);
    crept("strip 4 0;baked 3", "crust", 0, 0, 1, 0);
    crept("strip 2 0", "crust", 0, 0);
  }

  private static void bakedMiles() {
    says("II: a baked MILE neither rises nor creeps nor SAGS");
    DoughBorder x = border("strip 2 3;mile 0 20 60 0;mile 1 20 60 0;baked 0;warm 0 99 9");
    x.night();
    lines("no rule", x, 0, 3);
    doughs("no rule", x, 60, 69);
    x.night();
    lines("its neighbour alone comes nearer", x, 0, 5);
    DoughBorder all = border("strip 2 3;mile 0 40 60 0;mile 1 0 60 0;baked 0;baked 1;warm 0 99 9", "creep 3");
    all.night();
    lines("all baked", all, 20, -20);
    doughs("all baked", all, 60, 60);
  }

  private static void sagged(String call, int first, int second, boolean one, boolean two, int... want) {
    DoughBorder x = border("strip 2 0;mile 0 " + (first + 20) + " 0 0;mile 1 " + (second + 20) + " 0 0"
        + (one ? ";baked 0" : "") + (two ? ";baked 1" : ""), "creep 0");
    x.night();
    lines(call, x, want);
  }

  private static void sags() {
    says("II (3): if the LINES of a MILE and the one behind it are more than 4 feet apart, each comes 1 nearer");
    sagged("4 apart", 0, 4, false, false, 0, 4);
    sagged("4 apart, the other way", 4, 0, false, false, 4, 0);
    sagged("5 apart", 0, 5, false, false, 1, 4);
    sagged("5 apart, the other way", 5, 0, false, false, 4, 1);
    sagged("5 apart in the west", -20, -15, false, false, -19, -16);
    sagged("40 apart", 20, -20, false, false, 19, -19);
    sagged("40 apart, the other way", -20, 20, false, false, -19, 19);
    says("II (3): each of the two that is not baked");
    sagged("the first is baked", 0, 5, true, false, 0, 4);
    sagged("the second is baked", 0, 5, false, true, 1, 5);
    sagged("the first is baked, the other way", 5, 0, true, false, 5, 1);
    sagged("the second is baked, the other way", 5, 0, false, true, 4, 0);
    sagged("both are", 0, 40 - 20, true, true, 0, 20);
    says("II (3): by numbers");
    DoughBorder x = border("strip 3 0;mile 0 20 0 0;mile 1 25 0 0;mile 2 29 0 0", "creep 0");
    x.night();
    lines("the first pair makes the second 5 apart", x, 1, 5, 8);
    DoughBorder y = border("strip 3 0;mile 0 20 0 0;mile 1 24 0 0;mile 2 29 0 0", "creep 0");
    y.night();
    lines("the second pair leaves the first as it was", y, 0, 5, 8);
    DoughBorder z = border("strip 3 0;mile 0 15 0 0;mile 1 20 0 0;mile 2 15 0 0", "creep 0");
    z.night();
    lines("the first pair makes the second 4 apart", z, -4, -1, -5);
    DoughBorder ten = border("strip 10 0;mile 9 25 0 0", "creep 0");
    ten.night();
    lines("the last pair of ten", ten, 0, 0, 0, 0, 0, 0, 0, 0, 1, 4);
    says("II (3): SAGS by the LINES behind (2)");
    DoughBorder apart = border("strip 2 0;mile 0 24 0 0;mile 1 20 0 0", "creep 1 if mile=0");
    apart.night();
    lines("5 apart by creeping", apart, 4, 1);
    DoughBorder nearer = border("strip 2 0;mile 0 25 0 0;mile 1 20 0 0", "creep 1 if mile=1");
    nearer.night();
    lines("4 apart by creeping", nearer, 5, 1);
  }

  private static void linesHeld() {
    says("II: LINES are held to -20 to 20 behind (2)");
    for (int start = 17; start <= 20; start++) {
      String east = "strip 2 0;mile 0 " + (20 + start) + " 0 0;mile 1 " + (20 + start) + " 0 0";
      String west = "strip 2 0;mile 0 " + (20 - start) + " 0 0;mile 1 " + (20 - start) + " 0 0";
      DoughBorder e = border(east, "creep 3");
      DoughBorder w = border(west, "creep 0-3");
      e.night();
      w.night();
      lines("east of " + start, e, 20, 20);
      lines("west of -" + start, w, -20, -20);
    }
    DoughBorder within = border("strip 2 0;mile 0 36 0 0;mile 1 36 0 0", "creep 3");
    within.night();
    lines("east of 16", within, 19, 19);
    // held ahead of (3): from 23 it would come to 22 and be held at 20
    DoughBorder e = border("strip 2 0;mile 0 40 0 0;mile 1 35 0 0", "creep 3 if mile=0");
    e.night();
    lines("then it sags", e, 19, 16);
    DoughBorder w = border("strip 2 0;mile 0 0 0 0;mile 1 5 0 0", "creep 0-3 if mile=0");
    w.night();
    lines("then it sags", w, -19, -16);
    // 23 would be 5 from 18, 20 is not
    DoughBorder near = border("strip 2 0;mile 0 40 0 0;mile 1 38 0 0", "creep 3 if mile=0");
    near.night();
    lines("it does not sag", near, 20, 18);
  }

  private static void crossings() {
    says("II: A VILLAGE that lies otherwise than ahead of the NIGHT is CROSSED once more");
    int[][] cases = {{-1, 0}, {0, 1}, {1, 1}, {2, 0}};
    for (int[] c : cases) {
      DoughBorder x = border("strip 2 0;village 0 " + (20 + c[0]) + " 0", "creep 1 if mile=0");
      due("place " + c[0] + ", line 0 to 1", x.night(), c[1]);
      due("crossed", x.village(0, 4), c[1]);
    }
    DoughBorder over = border("strip 2 0;village 0 21 0", "creep 2");
    due("over it in one night", over.night(), 1);
    due("once", over.village(0, 4), 1);
    DoughBorder away = border("strip 2 0;mile 0 24 0 0;mile 1 20 0 0;village 0 24 0", "creep 1 if mile=0");
    due("over it and back by sagging", away.night(), 0);
    due("not crossed", away.count(8), 0);
    DoughBorder sag = border("strip 2 0;mile 0 25 0 0;mile 1 20 0 0;village 0 24 0;village 1 21 0", "creep 0");
    due("by sagging alone", sag.night(), 2);
    DoughBorder west = border("strip 2 0;village 0 20 0", "creep 0-1");
    due("westwards", west.night(), 1);
    due("it lies east", west.village(0, 3), 1);
    says("10: how many VILLAGES were CROSSED in it");
    DoughBorder all = border("strip 2 0" + ";village 1 20 0".repeat(7) + ";village 0 21 1", "creep 1 if night<2;creep 0");
    due("eight", all.night(), 8);
    due("one", all.night(), 1);
    due("none", all.night(), 0);
    due("all together", all.count(8), 9);
    for (int v = 0; v < 8; v++) due("village " + v, all.village(v, 4), v < 7 ? 1 : 2);
    says("10: NONE, and nothing happens, without a STRIP");
    idle(DoughBorder::new, "night", DoughBorder::night, -1);
  }

  private static void nightNumbers() {
    says("II: NIGHT is 1 more");
    DoughBorder x = border("strip 2 0;village 0 20 0", "creep 1 if night%2=0;creep 0-1");
    // 11 calls are behind, so with these and one more the 512 calls are full
    for (int n = 1; n <= 500; n++) x.night();
    due("the 512th call", x.count(6), 500);
    DoughBorder y = border("strip 2 0;village 0 20 0", "creep 1 if night%2=0;creep 0-1");
    for (int n = 1; n <= 500; n++) due("crossed in each", y.night(), 1);
    due("the 512th call", y.village(0, 4), 500);
  }

  private static void horses() {
    says("II: HORSES (a MILE that is not baked is pushed 1 to 3 feet east or west, held likewise)");
    for (int feet = -3; feet <= 3; feet++) {
      if (feet == 0) continue;
      DoughBorder x = border("strip 2 0;mile 1 37 0 0;mile 0 3 0 0");
      due("mile 1 by " + feet, x.horses(1, feet), 17 + feet);
      due("mile 0 by " + feet, x.horses(0, feet), -17 + feet);
      lines("then", x, -17 + feet, 17 + feet);
      due("an act each", x.count(10), 2);
      due("no night", x.count(6), 0);
    }
    DoughBorder x = border("strip 2 0;mile 0 38 0 0;mile 1 2 0 0;village 0 40 0;village 1 0 0");
    due("held", x.horses(0, 3), 20);
    due("held", x.horses(1, -3), -20);
    due("crossed", x.count(8), 2);
    due("held, though it lies there", x.horses(0, 1), 20);
    due("held, though it lies there", x.horses(1, -1), -20);
    due("acts all the same", x.count(10), 4);
    due("crossed no more", x.count(8), 2);
    says("II: HORSES, too, can have VILLAGES CROSSED");
    DoughBorder y = border("strip 2 0;village 0 20 0;village 0 21 0;village 0 22 1;village 0 23 1;village 1 20 0");
    due("2 feet", y.horses(0, 2), 2);
    int[] crossed = {1, 1, 1, 0, 0};
    for (int v = 0; v < 5; v++) due("village " + v, y.village(v, 4), crossed[v]);
    due("all together", y.count(8), 3);
    due("and back", y.horses(0, -2), 0);
    due("all together", y.count(8), 6);
    says("II: HORSES alone let nothing sag, rise or creep");
    DoughBorder z = border("strip 2 3;mile 0 20 60 0;mile 1 20 60 0;warm 0 9 9");
    due("3 feet", z.horses(0, 3), 3);
    due("3 feet", z.horses(0, 3), 6);
    lines("no sagging", z, 6, 0);
    doughs("no rising", z, 60, 60);
    says("11: -100, and nothing happens, without these");
    int[][] wrong = {{-1, 1}, {3, 1}, {2, 1}, {2, -1}, {0, 0}, {0, 4}, {0, -4}, {Integer.MAX_VALUE, 1},
        {Integer.MIN_VALUE, 1}, {0, Integer.MAX_VALUE}, {0, Integer.MIN_VALUE}};
    for (int[] w : wrong) idle(Checks::rich, "horses " + w[0] + " " + w[1], r -> r.horses(w[0], w[1]), -100);
    due("without a strip", new DoughBorder().horses(0, 1), -100);
  }

  private static void salt() {
    says("12: SALT (a MILE has 1 more, 9 at most): how much there is then");
    DoughBorder x = border("strip 2 0;mile 0 20 10 7");
    due("8", x.salt(0), 8);
    due("9", x.salt(0), 9);
    due("at 9", x.salt(0), -1);
    due("9 still", x.mile(0, 2), 9);
    due("two acts", x.count(10), 2);
    for (int k = 1; k <= 9; k++) due("the other", x.salt(1), k);
    due("at 9", x.salt(1), -1);
    doughs("its dough stays", x, 10, 10);
    says("II: SALT: a MILE (a baked one, too)");
    DoughBorder baked = border("strip 2 0;baked 1");
    due("baked", baked.salt(1), 1);
    due("an act", baked.count(10), 1);
    says("12: NONE, and nothing happens, without that MILE, or at 9");
    for (int mile : new int[] {-1, 3, 1, 10, Integer.MAX_VALUE, Integer.MIN_VALUE}) {
      idle(Checks::rich, "salt " + mile, r -> r.salt(mile), -1);
    }
    due("without a strip", new DoughBorder().salt(0), -1);
  }

  private static void sugar() {
    says("13: SUGAR (SALT 1 less, 0 at least, and DOUGH 10 more, 99 at most): DOUGH then");
    int[][] cases = {{0, 0, 10, 0}, {88, 9, 98, 8}, {89, 2, 99, 1}, {90, 1, 99, 0}, {99, 0, 99, 0}, {99, 1, 99, 0}};
    for (int[] c : cases) {
      DoughBorder x = border("strip 2 0;mile 1 20 " + c[0] + " " + c[1]);
      due("sugar on " + c[0], x.sugar(1), c[2]);
      due("dough then", x.mile(1, 1), c[2]);
      due("salt then", x.mile(1, 2), c[3]);
      due("an act", x.count(10), 1);
      due("line", x.mile(1, 0), 0);
    }
    says("13: NONE, and nothing happens, without these");
    for (int mile : new int[] {-1, 3, 2, 10, Integer.MAX_VALUE, Integer.MIN_VALUE}) {
      idle(Checks::rich, "sugar " + mile, r -> r.sugar(mile), -1);
    }
    due("without a strip", new DoughBorder().sugar(0), -1);
  }

  private static void slice() {
    says("14: SLICE (so much DOUGH less as is told, 1 to 99, if it has that): DOUGH then");
    int[][] cases = {{1, 1, 0}, {10, 1, 9}, {10, 9, 1}, {10, 10, 0}, {99, 99, 0}, {99, 98, 1}};
    for (int[] c : cases) {
      DoughBorder x = border("strip 2 0;mile 1 20 " + c[0] + " 3");
      due("slice " + c[1] + " of " + c[0], x.slice(1, c[1]), c[2]);
      due("dough then", x.mile(1, 1), c[2]);
      due("salt then", x.mile(1, 2), 3);
      due("an act", x.count(10), 1);
    }
    says("14: NONE, and nothing happens, without these");
    int[][] wrong = {{0, 0}, {0, -1}, {0, 100}, {0, Integer.MAX_VALUE}, {0, Integer.MIN_VALUE}, {-1, 1}, {3, 1}, {2, 1},
        {Integer.MAX_VALUE, 1}, {Integer.MIN_VALUE, 1}};
    for (int[] w : wrong) idle(Checks::rich, "slice " + w[0] + " " + w[1], r -> r.slice(w[0], w[1]), -1);
    for (int dough : new int[] {0, 10, 98, 99}) {
      DoughBorder x = border("strip 2 0;mile 0 20 " + dough + " 0");
      due("slice one more than " + dough, x.slice(0, dough + 1), -1);
      due("dough", x.mile(0, 1), dough);
      due("no act", x.count(10), 0);
    }
    due("without a strip", new DoughBorder().slice(0, 1), -1);
  }

  private static void bake() {
    says("15: BAKE (a MILE that is not baked is, for good): true");
    DoughBorder x = border("strip 10 3;warm 0 9 9");
    due("the first", x.bake(0), true);
    due("the last", x.bake(9), true);
    due("as bits", x.count(7), 513);
    x.night();
    x.night();
    due("for good", x.count(7), 513);
    due("its line", x.mile(9, 0), 0);
    due("its dough", x.mile(9, 1), 10);
    due("acts", x.count(10), 4);
    for (int m = 1; m < 9; m++) due("bake " + m, x.bake(m), true);
    due("all", x.count(7), 1023);
    says("15: false, and nothing happens, without these");
    for (int mile : new int[] {-1, 3, 2, 10, 31, 32, Integer.MAX_VALUE, Integer.MIN_VALUE}) {
      idle(Checks::rich, "bake " + mile, r -> r.bake(mile) ? 1 : 0, 0);
    }
    DoughBorder again = border("strip 2 0");
    due("once", again.bake(1), true);
    due("twice", again.bake(1), false);
    due("one act", again.count(10), 1);
    due("without a strip", new DoughBorder().bake(0), false);
  }

  private static void refusedActs() {
    says("II: what is refused is no ACT, so it takes no other's place among the last 20");
    DoughBorder x = border("strip 2 0;mile 0 20 99 9;baked 1");
    x.slice(0, 1);
    for (int k = 0; k < 20; k++) {
      x.salt(0);
      x.horses(0, 4);
      x.sugar(1);
      x.slice(0, 99);
      x.bake(1);
    }
    due("one act", x.count(10), 1);
    due("it is undone", x.undo(), 0);
    doughs("then", x, 99, 10);
  }

  private static void undone() {
    says("16: The last ACT is UNDONE: how many more can be");
    String at = "strip 2 0;mile 0 20 95 1;mile 1 20 40 0;village 0 20 0;village 0 21 0;warm 0 9 3";
    DoughBorder x = border(at, "creep 1");
    String first = seen(x);
    x.night();
    String behindNight = seen(x);
    x.horses(0, -3);
    String behindHorses = seen(x);
    x.salt(1);
    String behindSalt = seen(x);
    x.sugar(0);
    String behindSugar = seen(x);
    x.slice(0, 99);
    String behindSlice = seen(x);
    x.bake(1);
    due("undo bake", x.undo(), 5);
    alike("undo bake", seen(x), behindSlice);
    due("undo slice", x.undo(), 4);
    alike("undo slice", seen(x), behindSugar);
    due("undo sugar", x.undo(), 3);
    alike("undo sugar", seen(x), behindSalt);
    due("undo salt", x.undo(), 2);
    alike("undo salt", seen(x), behindHorses);
    due("undo horses", x.undo(), 1);
    alike("undo horses", seen(x), behindNight);
    due("undo night", x.undo(), 0);
    alike("undo night", seen(x), first);
    says("16: .. of the last of ten MILES and of eight VILLAGES, too");
    DoughBorder ten = border("strip 10 0;mile 9 20 50 5" + ";village 9 20 0".repeat(8));
    String before = seen(ten);
    ten.night();
    String crept = seen(ten);
    ten.horses(9, 3);
    String pushed = seen(ten);
    due("crossed by salt that night, and back by horses", ten.village(7, 4), 2);
    ten.salt(9);
    ten.sugar(9);
    ten.slice(9, 7);
    ten.bake(9);
    for (int k = 5; k >= 2; k--) due("undo", ten.undo(), k);
    alike("undo in mile 9", seen(ten), pushed);
    due("undo", ten.undo(), 1);
    alike("undo in mile 9", seen(ten), crept);
    due("undo", ten.undo(), 0);
    alike("undo in mile 9", seen(ten), before);
    says("16: -2, and nothing happens: none can");
    due("none can", x.undo(), -2);
    alike("no undo", seen(x), first);
    idle(DoughBorder::new, "undo without a strip", DoughBorder::undo, -2);
    idle(() -> border("strip 2 0;mile 0 30 5 5"), "undo without acts", DoughBorder::undo, -2);
    says("16: .. and what was baked ahead of it stays baked");
    DoughBorder baked = border("strip 10 0;baked 3");
    baked.bake(9);
    baked.salt(0);
    due("undo salt", baked.undo(), 1);
    due("baked", baked.count(7), 520);
    due("undo bake", baked.undo(), 0);
    due("baked", baked.count(7), 8);
    says("II: UNDONE are ACTS alone: LOGS, x, the RULE IN FORCE and the TAPE stay");
    DoughBorder y = border("strip 2 0", "creep 1");
    y.night();
    y.log(3, 1, 7);
    y.seed(5);
    y.force(-1);
    y.feed(0, 0, 0, 0, 0);
    due("undo", y.undo(), 0);
    counts("behind undo", y, 2, 0, 0, 0, 1, -1, 0, 0, 0, 1, 0, 5, 20);
  }

  private static void lastTwenty() {
    says("II: The last 20 ACTS can be UNDONE, the last first");
    for (int acts = 19; acts <= 21; acts++) {
      DoughBorder x = border("strip 2 0;mile 0 20 99 0");
      for (int k = 1; k <= acts; k++) {
        due("slice", x.slice(0, 1), 99 - k);
        due("acts", x.count(10), Math.min(k, 20));
      }
      int most = Math.min(acts, 20);
      for (int k = 1; k <= most; k++) {
        due("undo", x.undo(), most - k);
        due("dough", x.mile(0, 1), 99 - acts + k);
      }
      due("no more", x.undo(), -2);
      due("dough", x.mile(0, 1), 99 - acts + most);
    }
    for (int acts = 38; acts <= 90; acts++) {
      DoughBorder x = border("strip 2 0;mile 0 20 99 0");
      for (int k = 1; k <= acts; k++) x.slice(0, 1);
      for (int k = 1; k <= 20; k++) {
        due("undo", x.undo(), 20 - k);
        due("dough behind " + acts, x.mile(0, 1), 99 - acts + k);
      }
      due("no more", x.undo(), -2);
    }
    says("II: .. and acts behind an UNDO take the place of what was UNDONE");
    DoughBorder y = border("strip 2 0;mile 0 20 99 0");
    for (int k = 0; k < 25; k++) y.slice(0, 1);
    for (int k = 0; k < 10; k++) y.undo();
    due("ten are left", y.count(10), 10);
    due("dough", y.mile(0, 1), 84);
    for (int k = 0; k < 15; k++) y.slice(0, 1);
    due("twenty", y.count(10), 20);
    due("dough", y.mile(0, 1), 69);
    for (int k = 1; k <= 20; k++) {
      due("undo", y.undo(), 20 - k);
      due("dough", y.mile(0, 1), 69 + k);
    }
    due("no more", y.undo(), -2);
    y.bake(0);
    due("one more", y.undo(), 0);
    due("dough", y.mile(0, 1), 89);
  }
}
