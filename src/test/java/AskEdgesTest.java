import java.util.function.ToIntFunction;

/** Edges of what is asked: promises 17 to 28, and part III of the terms. */
public final class AskEdgesTest extends Checks {
  private static final int MAX = Integer.MAX_VALUE;
  private static final int MIN = Integer.MIN_VALUE;

  public static void main(String[] args) {
    nothingChanges();
    ahead();
    aheadEast();
    crosses();
    pushArguments();
    pushesEnough();
    pushRows();
    dukeArguments();
    dukes();
    logs();
    theftArguments();
    theftNights();
    theftDough();
    weigh();
    crustArguments();
    crust();
    peaceArguments();
    peace();
    part();
    seed();
    summersArguments();
    summers();
    finish();
  }

  private static void still(String call, ToIntFunction<DoughBorder> asked) {
    DoughBorder x = rich();
    int first = asked.applyAsInt(x);
    due(call + " again", asked.applyAsInt(x), first);
    alike(call, all(x), all(rich()));
  }

  private static void nothingChanges() {
    says("III: By what is asked nothing changes");
    for (int k = 0; k <= 2; k++) {
      int what = k;
      still("ahead " + k, x -> x.ahead(0, 100, what));
      still("theft " + k, x -> x.theft(5, what));
    }
    for (int k = 0; k <= 1; k++) {
      int what = k;
      still("dukes " + k, x -> x.dukes(4, what));
      still("weigh " + k, x -> x.weigh(5, 30, what));
      still("crust " + k, x -> x.crust(0, 1, 60, what));
      still("peace " + k, x -> x.peace(60, what));
      still("part " + k, x -> x.part(what));
      still("summers " + k, x -> x.summers(10, 60, what));
    }
    for (int k = 0; k <= 3; k++) {
      int what = k;
      still("push " + k, x -> x.push(3, what));
    }
    still("crosses", x -> x.crosses(0));
    still("warm", x -> x.warm(5));
    says("III: NIGHTS go on by the RULE IN FORCE");
    DoughBorder x = border("strip 2 0;village 0 21 1;want 0 0");
    Texts.rule(x, "creep 2");
    int[] without = {0, -2, 1, 0, -1, 1};
    int[] within = {2, 0, 0, 1, 0, 0};
    byRule("no rule", x, without);
    x.force(0);
    byRule("rule 0", x, within);
    x.force(-1);
    byRule("no rule again", x, without);
  }

  private static void byRule(String call, DoughBorder x, int[] want) {
    due(call + ": ahead", x.ahead(0, 1, 0), want[0]);
    due(call + ": crosses", x.crosses(0), want[1]);
    due(call + ": push", x.push(1, 0), want[2]);
    due(call + ": dukes", x.dukes(1, 0), want[3]);
    due(call + ": crust", x.crust(0, 0, 1, 0), want[4]);
    due(call + ": own nights", x.crust(0, 0, 1, 1), 1);
    due(call + ": peace", x.peace(1, 0), 1 - want[2]);
    due(call + ": summers", x.summers(1, 1, 0), 1 - want[5]);
  }

  // ---- ahead and crosses

  private static void ahead() {
    says("17: AHEAD n NIGHTS (0 to 100)");
    DoughBorder x = border("strip 2 0;mile 0 20 0 0;mile 1 20 5 0;warm 0 0 1;warm 98 99 2", "creep 1 if night=0 or night=99");
    int[][] due = {{0, 0, 0}, {1, 1, 1}, {2, 1, 1}, {98, 1, 1}, {99, 1, 3}, {100, 2, 5}};
    for (int[] d : due) {
      for (int m = 0; m < 2; m++) {
        due("line behind " + d[0], x.ahead(m, d[0], 0), d[1]);
        due("dough behind " + d[0], x.ahead(m, d[0], 1), d[2] + 5 * m);
      }
    }
    says("17: -100 without these");
    for (int what = 0; what <= 2; what++) {
      for (int n : new int[] {-1, 101, MAX, MIN}) due("ahead " + n, x.ahead(0, n, what), -100);
      for (int m : new int[] {-1, 2, 10, MAX, MIN}) due("mile " + m, x.ahead(m, 1, what), -100);
      due("without a strip", new DoughBorder().ahead(0, 0, what), -100);
    }
    for (int what : new int[] {-1, 3, MAX, MIN}) due("what " + what, x.ahead(0, 1, what), -100);
    DoughBorder ten = border("strip 10 0;mile 9 22 7 0");
    due("mile 9", ten.ahead(9, 0, 0), 2);
    due("mile 9", ten.ahead(9, 0, 1), 7);
    due("mile 10", ten.ahead(10, 0, 0), -100);
  }

  private static void aheadEast() {
    says("17: VILLAGES that lie EAST (of all MILES), as bits");
    DoughBorder x = border("strip 3 0;village 0 21 0;village 1 22 0;village 2 20 0;village 0 19 1;village 2 23 1;"
        + "village 1 20 0;village 1 23 0;village 2 40 0", "creep 1");
    int[] due = {0b11010011, 0b11010010, 0b11010000, 0b10000000};
    for (int n = 0; n < due.length; n++) {
      for (int m = 0; m < 3; m++) due("behind " + n, x.ahead(m, n, 2), due[n]);
    }
    due("the last comes onto the line", x.ahead(0, 20, 2), 0);
    due("one night less", x.ahead(0, 19, 2), 128);
    due("all lie east", border("strip 2 0" + ";village 1 21 0".repeat(8)).ahead(0, 0, 2), 255);
    due("no villages", border("strip 2 0").ahead(0, 100, 2), 0);
  }

  private static void crosses() {
    says("18: CROSSES: the first NIGHT from now on (60 are looked at) in which a VILLAGE is CROSSED");
    String at = "strip 2 0;baked 0;village 1 20 0";
    int[][] due = {{0, 0}, {1, 1}, {58, 58}, {59, 59}, {60, -2}, {61, -2}};
    for (int[] d : due) due("creeps in night " + d[0], border(at, "creep 1 if night=" + d[0]).crosses(0), d[1]);
    DoughBorder two = border(at, "creep 1 if night=5;creep 0-1 if night=7");
    due("the first of two", two.crosses(0), 5);
    for (int n = 0; n < 5; n++) two.night();
    due("at that night", two.crosses(0), 5);
    two.night();
    due("the second of two", two.crosses(0), 7);
    two.night();
    two.night();
    due("none is left", two.crosses(0), -2);
    int[][] later = {{2, -2}, {3, 3}, {62, 62}, {63, -2}};
    for (int[] d : later) {
      DoughBorder x = border(at, "creep 1 if night=" + d[0]);
      x.night();
      x.night();
      x.night();
      due("from night 3, creeps in " + d[0], x.crosses(0), d[1]);
    }
    DoughBorder onto = border("strip 2 0;village 0 21 0;village 0 22 0", "creep 1 if night=0;creep 1 if night=4");
    due("onto the line", onto.crosses(0), 0);
    due("onto the line", onto.crosses(1), 4);
    says("18: -2: in none of these; NONE without that VILLAGE");
    DoughBorder none = border("strip 2 0" + ";village 0 20 0".repeat(8));
    due("the last", none.crosses(7), -2);
    for (int v : new int[] {-1, 8, MAX, MIN}) due("village " + v, none.crosses(v), -1);
    due("one more than there are", border(at).crosses(1), -1);
    due("without villages", border("strip 2 0").crosses(0), -1);
    due("without a strip", new DoughBorder().crosses(0), -1);
    due("all baked", border("strip 2 3;baked 0;baked 1;village 0 20 0").crosses(0), -2);
  }

  // ---- push and dukes

  private static void pushArguments() {
    says("19: -3 without these, or a STRIP");
    DoughBorder x = border("strip 2 0;village 0 21 0;want 0 0");
    for (int n : new int[] {0, -1, 4, MAX, MIN}) {
      for (int what = -1; what <= 4; what++) due("push " + n + " " + what, x.push(n, what), -3);
    }
    for (int n = 1; n <= 3; n++) {
      for (int what : new int[] {-1, 4, MAX, MIN}) due("push " + n + " " + what, x.push(n, what), -3);
      for (int what = 0; what <= 3; what++) due("without a strip", new DoughBorder().push(n, what), -3);
    }
    says("19: -2: so many NIGHTS there are not");
    int[][] rows = {{1, 1, -2, -2}, {1, -1, 1, -2}, {1, -1, -1, 1}};
    for (int n = 1; n <= 3; n++) {
      for (int what = 0; what <= 3; what++) due("push " + n + " " + what, x.push(n, what), rows[n - 1][what]);
    }
    says("19: -2: it can't be");
    DoughBorder far = border("strip 2 0;village 0 40 0;want 0 0");
    for (int n = 1; n <= 3; n++) {
      for (int what = 0; what <= 3; what++) due("push " + n + " " + what, far.push(n, what), -2);
    }
  }

  private static void pushed(String call, String strip, int n, int... want) {
    DoughBorder x = border(strip);
    for (int what = 0; what < want.length; what++) due(call + " " + what, x.push(n, what), want[what]);
  }

  private static void pushesEnough() {
    says("III: PUSH: ahead of each HORSES may push one MILE by 2 feet");
    pushed("1 foot beyond", "strip 2 0;village 0 21 0;want 0 0", 1, 1, 1);
    pushed("2 feet beyond is on the line", "strip 2 0;village 0 22 0;want 0 0", 1, -2, -2);
    for (int place = 19; place <= 26; place++) {
      String strip = "strip 2 0;mile 1 24 10 0;baked 1;village 0 " + place + " 0;want 0 0";
      int pushes = place < 20 ? 0 : place < 22 ? 1 : place < 24 ? 2 : place < 26 ? 3 : -2;
      int[] row = {pushes, pushes < 0 ? -2 : pushes < 3 ? -1 : 1, pushes < 0 ? -2 : pushes < 2 ? -1 : 1,
          pushes < 0 ? -2 : pushes < 1 ? -1 : 1};
      pushed("east of " + place, strip, 3, row);
    }
    for (int place = 14; place <= 21; place++) {
      String strip = "strip 2 0;mile 1 16 10 0;baked 1;village 0 " + place + " 0;want 0 1";
      int pushes = place > 20 ? 0 : place > 18 ? 1 : place > 16 ? 2 : place > 14 ? 3 : -2;
      int[] row = {pushes, pushes < 0 ? -2 : pushes < 3 ? -1 : 0, pushes < 0 ? -2 : pushes < 2 ? -1 : 0,
          pushes < 0 ? -2 : pushes < 1 ? -1 : 0};
      pushed("west of " + place, strip, 3, row);
    }
    pushed("held at 20", "strip 2 0;mile 0 39 10 0;mile 1 39 10 0;village 0 39 0;want 0 0", 1, 1, 1);
    pushed("nothing lies behind 20", "strip 2 0;mile 0 39 10 0;mile 1 39 10 0;village 0 40 0;want 0 0", 3, -2);
    pushed("held at -20", "strip 2 0;mile 0 1 10 0;mile 1 1 10 0;village 0 1 0;want 0 1", 1, 1, 0);
    pushed("nothing lies behind -20", "strip 2 0;mile 0 1 10 0;mile 1 1 10 0;village 0 0 0;want 0 1", 3, -2);
    pushed("a baked mile is not pushed", "strip 2 0;baked 0;village 0 21 0;want 0 0", 3, -2);
    pushed("beside a baked one", "strip 3 0;baked 1;village 2 21 0;want 0 0", 1, 1, 5);
    pushed("ahead of a baked one", "strip 3 0;baked 1;village 0 19 0;want 0 1", 1, 1, 0);
    pushed("a baked one of three", "strip 3 0;baked 1;village 1 21 0;want 0 0", 3, -2);
    for (int n = 1; n <= 3; n++) pushed("none of ten", "strip 10 0;village 9 40 0;want 0 0", n, -2, -2);
    says("III: PUSH: behind the last of these all WANTS are so (a VILLAGE lies on that SIDE)");
    pushed("none wanted", "strip 2 0;village 0 21 0", 3, 0, -1, -1, -1);
    pushed("on the line is not west", "strip 2 0;village 0 20 0;want 0 0", 1, 1, 1);
    pushed("on the line is not east", "strip 2 0;village 0 20 0;want 0 1", 1, 1, 0);
    pushed("both sides at once", "strip 2 0;village 0 20 0;want 0 1;want 0 0", 3, -2);
    pushed("two miles, one night", "strip 2 0;village 0 21 0;village 1 21 0;want 0 0;want 1 0", 1, -2);
    pushed("two miles, two nights", "strip 2 0;village 0 21 0;village 1 21 0;want 0 0;want 1 0", 2, 2, 1, 3);
    pushed("the last wanted of two", "strip 2 0;village 0 19 0;village 1 21 0;want 0 0;want 1 0", 2, 1, -1, 3);
    DoughBorder away = border("strip 2 0;village 0 19 0;want 0 0", "creep 0-2 if night=1");
    due("it is so behind the first", away.push(1, 0), 0);
    due("but not behind the second", away.push(2, 0), 1);
    DoughBorder ahead = border("strip 2 0;village 0 23 0;want 0 0", "creep 3 if line>0");
    due("ahead of the night", ahead.push(1, 0), 1);
    due("so the night goes on from there", ahead.push(1, 1), 1);
  }

  private static void pushRows() {
    says("III: PUSH: the fewest pushes");
    DoughBorder x = border("strip 2 0;mile 0 24 0 0;baked 0;village 1 24 0;want 0 0", "creep 1 if mile=1 and line>0");
    int[] row = {1, 3, -1, -1};
    for (int what = 0; what <= 3; what++) due("one early, not two late: " + what, x.push(3, what), row[what]);
    says("III: PUSH: of several the first row (of each NIGHT none, then MILES by numbers, west ahead of east)");
    String at = "strip 2 0;village 1 20 0;want 0 0";
    String[] tests = {"above<0 or above>0 or line<0 or line>0", "above>0 or line<0 or line>0", "line<0 or line>0", "line>0"};
    for (int first = 0; first < 4; first++) {
      DoughBorder y = border(at, "creep 3 if mile=1 and [" + tests[first] + "]");
      due("choices from " + first + " on", y.push(1, 0), 1);
      due("the first of these", y.push(1, 1), first);
    }
    pushed("none first", "strip 2 0;village 0 21 0;want 0 0", 3, 1, -1, -1, 1);
    pushed("none first, then two", "strip 2 0;mile 0 24 10 0;baked 0;village 1 23 0;want 0 0", 3, 2, -1, 3, 3);
    pushed("two miles in their order", "strip 3 0;village 2 19 0;village 1 21 0;want 0 1;want 1 0", 2, 2, 3, 4);
    says("19: 2 times the MILE pushed ahead of that NIGHT, and 1 more, if east (NONE: none)");
    pushed("the last of ten, east", "strip 10 0;village 9 21 0;want 0 0", 1, 1, 19);
    pushed("the last of ten, west", "strip 10 0;village 9 19 0;want 0 1", 1, 1, 18);
    pushed("the first of ten, west", "strip 10 0;village 0 19 0;want 0 1", 1, 1, 0);
  }

  private static void dukeArguments() {
    says("20: -100 without these, or a STRIP");
    DoughBorder x = border("strip 2 0;village 0 20 0");
    for (int n : new int[] {0, -1, 5, MAX, MIN}) {
      for (int what = -1; what <= 2; what++) due("dukes " + n + " " + what, x.dukes(n, what), -100);
    }
    for (int n = 1; n <= 4; n++) {
      for (int what : new int[] {-1, 2, MAX, MIN}) due("dukes " + n + " " + what, x.dukes(n, what), -100);
      for (int what = 0; what <= 1; what++) due("without a strip", new DoughBorder().dukes(n, what), -100);
    }
  }

  private static void game(String call, DoughBorder x, int n, int much, int first) {
    due(call + ", how much in " + n, x.dukes(n, 0), much);
    due(call + ", first push in " + n, x.dukes(n, 1), first);
  }

  private static void dukes() {
    says("III: DUKES for n NIGHTS (1 to 4): one duke pushes a MILE by 1 foot, or nothing, by turns, the west's first");
    DoughBorder on = border("strip 2 0;village 0 20 0");
    int[] much = {1, 0, 1, 0};
    for (int n = 1; n <= 4; n++) game("on the line", on, n, much[n - 1], 0);
    says("III: DUKES: the west's always east, the east's always west");
    game("1 foot east", border("strip 2 0;village 0 21 0"), 1, 0, 0);
    game("2 feet east", border("strip 2 0;village 0 22 0"), 1, -1, -1);
    game("2 feet east", border("strip 2 0;village 0 22 0"), 3, -1, -1);
    game("1 foot west", border("strip 2 0;village 0 19 0"), 2, 1, 0);
    game("2 feet west", border("strip 2 0;village 0 18 0"), 2, 1, -1);
    says("III: DUKES: what is WEST less what is EAST of VILLAGES at the end");
    String eight = ";village 1 20 0".repeat(8);
    game("all eight", border("strip 2 0" + eight), 1, 8, 1);
    game("all eight back again", border("strip 2 0" + eight), 2, 0, 1);
    game("all eight east", border("strip 2 0" + ";village 1 25 0".repeat(8)), 4, -8, -1);
    game("all eight west", border("strip 2 0" + ";village 1 15 1".repeat(8)), 4, 8, -1);
    game("whose they are is not asked", border("strip 2 0;village 0 20 1;village 1 15 1"), 1, 2, 0);
    game("no villages", border("strip 10 0"), 4, 0, -1);
    game("seven against one", border("strip 2 0" + ";village 1 30 0".repeat(7) + ";village 0 10 0"), 1, -6, -1);
    says("III: DUKES: the first push (none ahead of MILES, by numbers) by which it is so");
    game("the last of ten", border("strip 10 0;village 9 20 0"), 1, 1, 9);
    game("the least of two", border("strip 10 0;village 4 20 0;village 7 20 0"), 1, 1, 4);
    game("more in the second", border("strip 10 0;village 4 20 0;village 7 20 0;village 7 20 0"), 1, 2, 7);
    game("held at 20", border("strip 2 0;mile 0 40 10 0;mile 1 40 10 0;village 0 40 0"), 1, 0, -1);
    game("a baked mile is not pushed", border("strip 2 0;baked 0;village 0 20 0"), 1, 0, -1);
    game("all are baked", border("strip 2 0;baked 0;baked 1;village 0 20 0"), 4, 0, -1);
    says("III: DUKES: ahead of each NIGHT");
    game("the night goes on from there", border("strip 2 0;village 0 21 0", "creep 1 if line>0"), 1, 1, 0);
    game("against the creeping", border("strip 2 0;village 0 20 0", "creep 0-1 if mile=0"), 1, 0, 0);
    game("over the ends of the land", border("strip 2 0;mile 0 0 0 0;mile 1 0 0 0;village 0 0 0", "creep 0-1"), 1, 0, -1);
  }

  // ---- logs, thefts, weighing

  private static void logs() {
    says("21: A LOG (n NONE: there are none then, 0; DOUGH 0 to 99): how many");
    DoughBorder x = border("strip 2 0");
    int[][] fine = {{0, 0, 0}, {30, 1, 99}, {0, 1, 99}, {30, 0, 0}};
    for (int k = 0; k < fine.length; k++) due("log", x.log(fine[k][0], fine[k][1], fine[k][2]), k + 1);
    due("none then", x.log(-1, 0, 0), 0);
    due("logs", x.count(9), 0);
    due("the first again", x.log(30, 1, 99), 1);
    due("none then, whatever comes behind", x.log(-1, MIN, MAX), 0);
    due("logs", x.count(9), 0);
    due("none of none", x.log(-1, 0, 0), 0);
    due("no act", x.count(10), 0);
    due("none without a strip", new DoughBorder().log(-1, 0, 0), 0);
    says("21: -2, and nothing happens, without these");
    int[][] wrong = {{31, 0, 0}, {-2, 0, 0}, {MAX, 0, 0}, {MIN, 0, 0}, {0, -1, 0}, {0, 3, 0}, {0, MAX, 0}, {0, MIN, 0},
        {0, 0, -1}, {0, 0, 100}, {0, 0, MAX}, {0, 0, MIN}};
    for (int[] w : wrong) idle(Checks::rich, "log " + w[0] + " " + w[1] + " " + w[2], r -> r.log(w[0], w[1], w[2]), -2);
    due("without a strip", new DoughBorder().log(0, 0, 0), -2);
    due("the last mile of ten", border("strip 10 0").log(0, 9, 0), 1);
    due("one more", border("strip 10 0").log(0, 10, 0), -2);
    says("21: -2, and nothing happens, if there are 10 (LOGS 0 to 9)");
    DoughBorder ten = border("strip 2 0;mile 0 20 50 0");
    for (int k = 1; k <= 9; k++) due("log", ten.log(30, 0, 45), k);
    due("nine told", ten.theft(5, 0), 30);
    due("the tenth", ten.log(0, 0, 50), 10);
    due("the tenth is heard", ten.theft(5, 0), 29);
    due("an eleventh", ten.log(1, 0, 50), -2);
    due("logs", ten.count(9), 10);
    due("it is not heard", ten.theft(5, 0), 29);
    due("none then", ten.log(-1, 0, 0), 0);
    due("all as if none had been told", ten.theft(5, 0), 60);
    due("one more", ten.log(1, 0, 50), 1);
  }

  private static void theftArguments() {
    says("22: THEFT of a size (1 to 99) what 0 .. 2. NONE without these, or a STRIP");
    DoughBorder x = border("strip 2 0;mile 0 20 99 0;mile 1 20 98 0");
    due("size 1", x.theft(1, 0), 60);
    due("size 98", x.theft(98, 0), 60);
    due("size 99", x.theft(99, 0), 30);
    for (int size : new int[] {0, -1, 100, MAX, MIN}) {
      for (int what = 0; what <= 2; what++) due("size " + size, x.theft(size, what), -1);
    }
    for (int what : new int[] {-1, 3, MAX, MIN}) due("what " + what, x.theft(5, what), -1);
    for (int what = 0; what <= 2; what++) due("without a strip", new DoughBorder().theft(5, what), -1);
    says("22: how many; -2: there is none");
    DoughBorder none = border("strip 2 0;mile 0 20 50 0;mile 1 20 51 0");
    due("size 51", none.theft(51, 0), 30);
    due("its mile", none.theft(51, 1), 1);
    due("its night", none.theft(51, 2), 0);
    due("size 52", none.theft(52, 0), 0);
    due("no mile", none.theft(52, 1), -2);
    due("no night", none.theft(52, 2), -2);
    StringBuilder ten = new StringBuilder("strip 10 0");
    for (int m = 0; m < 10; m++) ten.append(";mile ").append(m).append(" 20 99 0");
    due("all miles and nights", border(ten.toString()).theft(99, 0), 300);
    due("all are baked", border("strip 2 0;baked 0;baked 1").theft(1, 0), 0);
  }

  private static void theft(String call, DoughBorder x, int size, int many, int mile, int night) {
    due(call + ": how many", x.theft(size, 0), many);
    due(call + ": mile", x.theft(size, 1), mile);
    due(call + ": night", x.theft(size, 2), night);
  }

  private static DoughBorder logged(String strip, int[]... logs) {
    DoughBorder x = border(strip);
    for (int[] l : logs) x.log(l[0], l[1], l[2]);
    due("logs", x.count(9), logs.length);
    return x;
  }

  private static void theftNights() {
    says("III: THEFT: a NIGHT (0 to 29); the LOG of that NIGHT is behind it");
    String at = "strip 2 0;mile 0 20 50 0;mile 1 20 3 0";
    theft("gone at 0", logged(at, new int[] {0, 0, 45}), 5, 1, 0, 0);
    theft("there at 0, gone at 1", logged(at, new int[] {0, 0, 50}, new int[] {1, 0, 45}), 5, 1, 0, 1);
    theft("there at 28, gone at 29", logged(at, new int[] {28, 0, 50}, new int[] {29, 0, 45}), 5, 1, 0, 29);
    theft("there at 29, gone at 30", logged(at, new int[] {29, 0, 50}, new int[] {30, 0, 45}), 5, 0, -2, -2);
    theft("gone at 30", logged(at, new int[] {30, 0, 45}), 5, 30, 0, 0);
    theft("there at 30", logged(at, new int[] {30, 0, 50}), 5, 0, -2, -2);
    theft("there at 30 in both", logged(at, new int[] {30, 0, 50}, new int[] {30, 1, 3}), 2, 0, -2, -2);
    says("III: THEFT: by which all LOGS are so");
    theft("no logs", logged(at), 3, 60, 0, 0);
    theft("another size", logged(at, new int[] {30, 0, 45}), 6, 0, -2, -2);
    theft("two that can't be", logged(at, new int[] {5, 0, 45}, new int[] {5, 0, 50}), 5, 0, -2, -2);
    theft("the same twice", logged(at, new int[] {5, 0, 45}, new int[] {5, 0, 45}), 5, 6, 0, 0);
    theft("gone and there again", logged(at, new int[] {5, 0, 45}, new int[] {6, 0, 50}), 5, 0, -2, -2);
    says("III: THEFT: the first (by MILES, then NIGHTS)");
    theft("mile 1", logged(at, new int[] {30, 0, 50}), 3, 30, 1, 0);
    theft("mile 0, late", logged(at, new int[] {20, 0, 50}), 3, 39, 0, 21);
    theft("one in mile 0, then mile 1", logged(at, new int[] {28, 0, 50}), 3, 31, 0, 29);
    theft("mile 1, late", logged(at, new int[] {30, 0, 50}, new int[] {7, 1, 3}), 3, 22, 1, 8);
  }

  private static void theftDough() {
    says("III: THEFT: not baked, as much DOUGH there");
    theft("baked 0", border("strip 2 0;baked 0"), 10, 30, 1, 0);
    theft("just as much", border("strip 2 0;mile 0 20 9 0"), 10, 30, 1, 0);
    theft("from night 1 on", border("strip 2 0;mile 0 20 3 0;mile 1 20 0 0;warm 0 0 5"), 8, 29, 0, 1);
    theft("one more", border("strip 2 0;mile 0 20 3 0;mile 1 20 0 0;warm 0 0 5"), 9, 0, -2, -2);
    theft("at night 29 alone", border("strip 2 0;mile 0 20 0 0;baked 1;warm 28 28 5"), 5, 1, 0, 29);
    theft("too late", border("strip 2 0;mile 0 20 0 0;baked 1;warm 29 29 5"), 5, 0, -2, -2);
    says("III: THEFT: at the begin of the n-th NIGHT of all (0 to 30) a MILE had so much DOUGH");
    String warm = "strip 2 0;mile 0 20 10 0;baked 1;warm 0 0 1;warm 29 30 7";
    theft("it rose in night 0", logged(warm, new int[] {1, 0, 11}), 5, 28, 0, 2);
    theft("it did not rise ahead of it", logged(warm, new int[] {0, 0, 10}, new int[] {1, 0, 6}), 5, 1, 0, 1);
    theft("it rose in night 29", logged(warm, new int[] {30, 0, 13}), 5, 30, 0, 0);
    theft("a baked mile keeps its dough", logged(warm, new int[] {30, 1, 10}), 5, 30, 0, 0);
    theft("a baked mile keeps its dough", logged(warm, new int[] {30, 1, 18}), 5, 0, -2, -2);
    says("III: THEFT: what is taken rises again, 99 at most");
    String full = "strip 2 0;mile 0 20 99 0;baked 1;warm 0 9 9";
    theft("made up by nine nights", logged(full, new int[] {9, 0, 99}), 81, 21, 0, 0);
    theft("not made up by nine nights", logged(full, new int[] {9, 0, 99}), 82, 20, 0, 10);
    theft("all of it", logged(full, new int[] {0, 0, 0}), 99, 1, 0, 0);
    String two = "strip 2 0;mile 0 20 50 0;mile 1 20 3 0;warm 0 29 1";
    theft("in mile 1, at night 10", logged(two, new int[] {10, 1, 11}), 2, 11, 1, 0);
    theft("in mile 1, at night 30", logged(two, new int[] {30, 1, 31}), 2, 30, 1, 0);
    theft("in mile 1, behind night 9", logged(two, new int[] {10, 1, 11}, new int[] {9, 1, 12}), 2, 1, 1, 10);
    StringBuilder ten = new StringBuilder("strip 10 0;warm 0 29 2");
    for (int m = 0; m < 10; m++) ten.append(";mile ").append(m).append(" 20 ").append(3 * m).append(" 0");
    theft("in the last of ten", logged(ten.toString(), new int[] {30, 9, 82}), 5, 30, 9, 0);
    theft("in none of ten", logged(ten.toString(), new int[] {30, 9, 83}), 5, 0, -2, -2);
    says("III: THEFT: by how the text told it, else nothing was done");
    DoughBorder done = border("strip 2 0;mile 0 20 50 0;mile 1 20 3 0;warm 0 0 5", "creep 3");
    done.night();
    done.night();
    done.slice(0, 50);
    done.sugar(1);
    done.bake(1);
    theft("behind acts", done, 8, 59, 0, 0);
    done.log(0, 0, 50);
    done.log(3, 0, 47);
    theft("behind acts, with logs", done, 8, 3, 0, 1);
  }

  private static void weighed(String call, DoughBorder x, int size, int n, int mile, int many) {
    due(call + ": mile", x.weigh(size, n, 0), mile);
    due(call + ": how many", x.weigh(size, n, 1), many);
  }

  private static void weigh() {
    says("23: NONE without these, or a STRIP");
    String at = "strip 2 0;mile 0 20 50 0;mile 1 20 3 0";
    DoughBorder x = border(at);
    for (int size : new int[] {0, -1, 100, MAX, MIN}) weighed("size " + size, x, size, 0, -1, -1);
    for (int n : new int[] {-1, 31, MAX, MIN}) weighed("night " + n, x, 5, n, -1, -1);
    for (int what : new int[] {-1, 2, MAX, MIN}) due("what " + what, x.weigh(5, 0, what), -1);
    weighed("without a strip", new DoughBorder(), 5, 0, -1, -1);
    says("23: -2: there is none");
    weighed("size 51", x, 51, 0, -2, -2);
    weighed("size 99", x, 99, 30, -2, -2);
    says("III: WEIGH at the n-th NIGHT (0 to 30): the most alike are fewest; how many");
    weighed("night 0 shows one", x, 5, 0, 0, 29);
    weighed("night 13", x, 5, 13, 0, 16);
    weighed("night 14 shows half", x, 5, 14, 0, 15);
    weighed("night 15", x, 5, 15, 0, 16);
    weighed("night 28", x, 5, 28, 0, 29);
    weighed("night 29 shows all", x, 5, 29, 0, 30);
    weighed("night 30 shows all", x, 5, 30, 0, 30);
    weighed("one is left", logged(at, new int[] {0, 0, 45}), 5, 3, 0, 1);
    weighed("0 is not 1", border("strip 2 0;mile 0 20 1 0;baked 1"), 1, 14, 0, 15);
    weighed("98 is not 99", border("strip 2 0;mile 0 20 99 0;baked 1"), 1, 14, 0, 15);
    weighed("0 is not 99", border("strip 2 0;mile 0 20 99 0;baked 1"), 99, 14, 0, 15);
    says("III: WEIGH: of several the least");
    weighed("both alike", border("strip 2 0"), 5, 14, 0, 45);
    weighed("the second tells more", border("strip 2 0;mile 0 20 4 0"), 5, 14, 1, 15);
    weighed("the last of ten", border("strip 10 0;mile 9 20 90 0"), 80, 14, 9, 15);
    weighed("a baked one tells nothing", border("strip 2 0;baked 0"), 5, 14, 1, 15);
    weighed("all alike", border("strip 3 0;baked 0;baked 1"), 5, 29, 0, 30);
    says("III: WEIGH: by DOUGH at its begin, behind a THEFT of that NIGHT");
    DoughBorder warm = border("strip 2 0;mile 0 20 5 0;baked 1;warm 0 29 5");
    // untouched it is 5 and 5 more a night: 95 at night 18, full at 19
    weighed("one shows at 0", warm, 5, 0, 0, 29);
    weighed("19 show 95, ten 99, one 94", warm, 5, 19, 0, 19);
    weighed("one shows at 20", warm, 5, 20, 0, 29);
    weighed("one shows at 29", warm, 5, 29, 0, 29);
    weighed("all are full at 30", warm, 5, 30, 0, 30);
  }

  // ---- crust and peace

  private static void crustArguments() {
    says("24: -2 without these");
    DoughBorder x = border("strip 2 0;village 0 22 0;village 1 22 1", "creep 1");
    for (int what = 0; what <= 1; what++) {
      for (int m : new int[] {-1, 2, MAX, MIN}) due("mile " + m, x.crust(m, 0, 1, what), -2);
      for (int v : new int[] {-1, 2, 8, MAX, MIN}) due("village " + v, x.crust(0, v, 1, what), -2);
      for (int n : new int[] {0, -1, 61, MAX, MIN}) due("nights " + n, x.crust(0, 0, n, what), -2);
      due("without a strip", new DoughBorder().crust(0, 0, 1, what), -2);
      due("without villages", border("strip 2 0").crust(0, 0, 1, what), -2);
    }
    for (int what : new int[] {-1, 2, MAX, MIN}) due("what " + what, x.crust(0, 0, 1, what), -2);
    String eight = "strip 10 0" + ";village 9 20 0".repeat(7) + ";village 9 21 1";
    due("the last of all", border(eight).crust(9, 7, 1, 1), 1);
  }

  private static void crusted(String call, DoughBorder x, int mile, int village, int n, int night, int many) {
    due(call + ": night", x.crust(mile, village, n, 0), night);
    due(call + ": how many", x.crust(mile, village, n, 1), many);
  }

  private static void crust() {
    says("24: CRUST in n NIGHTS (1 to 60): ahead of which of these it is best BAKED");
    DoughBorder x = border("strip 2 0;village 0 21 1;village 0 23 1;village 0 23 0", "creep 1");
    crusted("one night", x, 0, 0, 1, 0, 1);
    crusted("five nights", x, 0, 0, 5, 0, 5);
    crusted("sixty nights", x, 0, 0, 60, 0, 60);
    String late = "strip 2 0;village 0 21 1";
    crusted("in the 60th", border(late, "creep 1 if night=59"), 0, 0, 60, 59, 60);
    crusted("behind the 59th", border(late, "creep 1 if night=59"), 0, 0, 59, -1, 59);
    DoughBorder from = border(late, "creep 1 if night=62");
    from.night();
    from.night();
    from.night();
    crusted("in the 60th from night 3", from, 0, 0, 60, 62, 60);
    crusted("behind the 59th from night 3", from, 0, 0, 59, -1, 59);
    says("24: of several never, then the latest");
    crusted("two feet are left", x, 0, 1, 5, 2, 5);
    crusted("two nights do no harm", x, 0, 1, 2, -1, 2);
    crusted("the third would", x, 0, 1, 3, 2, 3);
    crusted("of no use", x, 1, 1, 5, -1, 2);
    crusted("never on its own side", border("strip 2 0;village 0 30 0"), 0, 0, 60, -1, 0);
    crusted("always on its own side", border("strip 2 0;village 0 30 1"), 0, 0, 60, -1, 60);
    says("24: so that the VILLAGE lies on its own side at the ends of most of these");
    crusted("the west's: let it creep", x, 0, 2, 5, -1, 2);
    crusted("on the line is nobody's", border("strip 2 0;village 0 20 0;village 0 20 1"), 0, 0, 9, -1, 0);
    crusted("on the line is nobody's", border("strip 2 0;village 0 20 0;village 0 20 1"), 0, 1, 9, -1, 0);
    DoughBorder both = border("strip 2 0;village 0 21 0", "creep 1 if night<2;creep 0-1");
    // lines 1, 2, 1, 0: baked behind night 1 it stays west of 2
    crusted("west and back", both, 0, 0, 4, 2, 3);
    says("24: for a VILLAGE (any)");
    crusted("the mile beside it", border("strip 2 0;village 0 21 1", "creep 1 if crust=0"), 1, 0, 3, 0, 3);
    // baked from night 1 on, lines are 1, 0, 1, 0: east of none but 0
    crusted("by turns", border("strip 2 0;village 0 21 1",
        "creep 1 if mile=0 and [crust=0 or night%2=0];creep 0-1 if mile=0"), 1, 0, 4, 1, 2);
    says("24: (if it is not baked now), or never");
    DoughBorder baked = border("strip 2 0;village 0 21 1;village 1 21 1;baked 0", "creep 1");
    crusted("baked by the text", baked, 0, 0, 5, -1, 5);
    crusted("baked by the text, for another", baked, 0, 1, 5, -1, 0);
    baked.bake(1);
    crusted("baked by hand", baked, 1, 1, 5, -1, 5);
  }

  private static void peaceArguments() {
    says("25: NONE without these, or a STRIP");
    DoughBorder x = border("strip 2 0;village 0 20 0", "creep 1");
    for (int n : new int[] {0, -1, 61, MAX, MIN}) {
      for (int what = 0; what <= 1; what++) due("peace " + n, x.peace(n, what), -1);
    }
    for (int what : new int[] {-1, 2, MAX, MIN}) due("what " + what, x.peace(1, what), -1);
    for (int what = 0; what <= 1; what++) due("without a strip", new DoughBorder().peace(1, what), -1);
  }

  private static void peaceful(String call, DoughBorder x, int n, int many, int set) {
    due(call + ": how many", x.peace(n, 0), many);
    due(call + ": the set", x.peace(n, 1), set);
  }

  private static void peace() {
    says("25: PEACE for n NIGHTS (1 to 60): the fewest MILES to BAKE now so that no VILLAGE is CROSSED in these");
    DoughBorder late = border("strip 2 0;village 1 20 0", "creep 1 if night=0;creep 0-1 if night=60");
    peaceful("one night", late, 1, 1, 2);
    late.night();
    peaceful("59 nights from night 1", late, 59, 0, 0);
    peaceful("60 nights from night 1", late, 60, 1, 2);
    DoughBorder last = border("strip 2 0;village 1 20 0", "creep 1 if night=59");
    peaceful("59 nights", last, 59, 0, 0);
    peaceful("60 nights", last, 60, 1, 2);
    peaceful("no villages", border("strip 10 3", "creep 1"), 60, 0, 0);
    StringBuilder eight = new StringBuilder("strip 10 0");
    for (int m = 2; m < 10; m++) eight.append(";village ").append(m).append(" 20 0");
    peaceful("eight miles", border(eight.toString(), "creep 1"), 1, 8, 1020);
    peaceful("eight miles", border(eight.toString(), "creep 1"), 60, 8, 1020);
    peaceful("all of two", border("strip 2 0;village 0 20 0;village 1 21 1", "creep 1"), 1, 2, 3);
    peaceful("all of two, by either end", border("strip 2 0;village 0 20 0;village 1 22 1", "creep 1"), 2, 2, 3);
    peaceful("one of two", border("strip 2 0;village 0 20 0;village 1 22 1", "creep 1"), 1, 1, 1);
    says("25: PEACE: MILES that are baked now are not baked again");
    peaceful("one is baked", border("strip 2 0;village 0 20 0;village 1 20 1;baked 1", "creep 1"), 9, 1, 1);
    peaceful("both are baked", border("strip 2 0;village 0 20 0;village 1 20 1;baked 1;baked 0", "creep 1"), 9, 0, 0);
    says("25: PEACE: of several sets the least as bits");
    // mile 1 is only drawn along: either the one that draws or the one that is drawn may be baked
    peaceful("either of two", border("strip 2 0;mile 0 22 0 0;village 1 20 0", "creep 1 if mile=0 and night<9"), 9, 1, 1);
    peaceful("either of two, the other way", border("strip 2 0;mile 1 22 0 0;village 0 20 0", "creep 1 if mile=1 and night<9"), 9, 1, 1);
    says("25: PEACE: fewest ahead of least");
    peaceful("4 has fewer than 3", border("strip 3 0;village 0 20 0;village 1 20 0",
        "creep 3 if mile=2;creep 1 if mile=0 and crust=1"), 5, 1, 4);
    says("25: PEACE: CROSSED by SAGGING beside baked MILES, too");
    // mile 1 is baked by peace for its own village, mile 0 sags towards it all the same
    peaceful("it sags", border("strip 2 0;mile 0 25 0 0;mile 1 20 0 0;village 0 25 0;village 1 20 0", "creep 0"), 1, 2, 3);
  }

  // ---- part, draws, summers

  private static void part() {
    says("26: PART of the west: LINE and 20 more feet of 41 of each MILE: a fraction in lowest terms");
    int[][] cases = {{0, 0, 0, 1}, {40, 40, 40, 41}, {20, 20, 20, 41}, {0, 1, 1, 82}, {0, 2, 1, 41}, {40, 39, 79, 82},
        {40, 1, 1, 2}, {1, 40, 1, 2}, {0, 40, 20, 41}, {21, 20, 1, 2}, {3, 0, 3, 82}};
    for (int[] c : cases) {
      DoughBorder x = border("strip 2 0;mile 0 " + c[0] + " 0 0;mile 1 " + c[1] + " 0 0");
      due("above, " + c[0] + " and " + c[1], x.part(0), c[2]);
      due("below, " + c[0] + " and " + c[1], x.part(1), c[3]);
    }
    DoughBorder ten = border("strip 10 0;mile 9 21 0 0");
    due("above, ten", ten.part(0), 201);
    due("below, ten", ten.part(1), 410);
    DoughBorder five = border("strip 10 0;mile 9 25 0 0");
    due("above, ten", five.part(0), 1);
    due("below, ten", five.part(1), 2);
    five.horses(9, -1);
    due("now", five.part(0), 102);
    due("now", five.part(1), 205);
    says("26: NONE for others, or without a STRIP");
    for (int part : new int[] {-1, 2, MAX, MIN}) {
      due("part " + part, ten.part(part), -1);
      due("without a strip " + part, new DoughBorder().part(part), -1);
    }
    for (int part = 0; part <= 1; part++) due("without a strip " + part, new DoughBorder().part(part), -1);
  }

  private static void seed() {
    says("27: x becomes a number: what it was (0 to 2147483647; 0 at first)");
    DoughBorder x = new DoughBorder();
    due("0 at first", x.seed(1), 0);
    due("1", x.seed(MAX), 1);
    due("2147483647", x.count(11), MAX);
    due("2147483647", x.seed(0), MAX);
    due("0", x.count(11), 0);
    due("no strip came of it", x.count(0), 0);
    says("27: NONE, and nothing happens, below 0");
    for (int wrong : new int[] {-1, -2, MIN}) idle(Checks::rich, "seed " + wrong, r -> r.seed(wrong), -1);
  }

  private static void summersArguments() {
    says("28: SUMMERS m times (1 to 10) n NIGHTS (1 to 60). NONE without these, or a STRIP");
    DoughBorder x = border("strip 2 0", "creep 1");
    for (int what = 0; what <= 1; what++) {
      for (int m : new int[] {0, -1, 11, MAX, MIN}) due("times " + m, x.summers(m, 1, what), -1);
      for (int n : new int[] {0, -1, 61, MAX, MIN}) due("nights " + n, x.summers(1, n, what), -1);
      due("without a strip", new DoughBorder().summers(1, 1, what), -1);
    }
    for (int what : new int[] {-1, 2, MAX, MIN}) due("what " + what, x.summers(1, 1, what), -1);
    due("once, one night", x.summers(1, 1, 1), 2);
    due("ten times", x.summers(10, 1, 1), 20);
    due("sixty nights", x.summers(1, 60, 1), 40);
    due("ten times sixty", x.summers(10, 60, 1), 400);
    due("without villages", x.summers(10, 60, 0), 0);
  }

  private static long next(long x) {
    return (x * 1103515245L + 12345L) % 2147483648L;
  }

  /** Of a strip of two miles with lines at start that creep 1 east if warm is asked: feet, or crossings of place 0. */
  private static int drawn(long seed, int start, int asked, int m, int n, boolean feet) {
    long x = seed;
    int sum = 0;
    for (int time = 0; time < m; time++) {
      int line = start;
      for (int night = 0; night < n; night++) {
        x = next(x);
        int was = Integer.compare(0, line);
        if (x / 65536 % 10 == asked) line = Math.min(20, line + 1);
        if (!feet && was != Integer.compare(0, line)) sum++;
      }
      if (feet) sum += 2 * Math.abs(line - start);
    }
    return sum;
  }

  private static void summers() {
    says("28: DRAWS: x becomes x * 1103515245 + 12345, of 2147483648 the rest; a DRAW is x / 65536, mod 10");
    for (int seed : new int[] {0, 1, 12345, 65535, 65536, 1 << 30, MAX - 1, MAX}) {
      for (int asked = 0; asked <= 9; asked++) {
        DoughBorder x = border("strip 2 0;mile 0 19 0 0;mile 1 19 0 0;village 1 20 0", "creep 1 if warm=" + asked);
        x.seed(seed);
        for (int[] t : new int[][] {{1, 1}, {1, 2}, {2, 1}, {3, 7}, {10, 60}}) {
          String call = "seed " + seed + ", warm " + asked + ", " + t[0] + " times " + t[1];
          due(call + ", feet", x.summers(t[0], t[1], 1), drawn(seed, -1, asked, t[0], t[1], true));
          due(call + ", crossed", x.summers(t[0], t[1], 0), drawn(seed, -1, asked, t[0], t[1], false));
        }
        due("x as it was", x.count(11), seed);
      }
    }
    says("28: the WARMTH of each is a DRAW (told ones not asked)");
    DoughBorder told = border("strip 2 0;warm 0 99 9", "creep dough-10");
    due("the first draw of 0 is 0", told.summers(1, 1, 1), 0);
    DoughBorder most = border("strip 2 0", "creep dough-18");
    most.seed(MAX);
    due("the first draw of 2147483647 is 9", most.summers(1, 1, 1), 2);
    DoughBorder full = border("strip 2 0;mile 0 20 91 0;mile 1 20 91 0", "creep dough-98");
    full.seed(MAX);
    due("99 at most", full.summers(1, 1, 1), 2);
    says("28: n NIGHTS from now on");
    DoughBorder x = border("strip 2 0;village 0 20 0", "creep 1 if night=61");
    x.night();
    x.night();
    due("59 nights", x.summers(3, 59, 1), 0);
    due("60 nights", x.summers(3, 60, 1), 6);
    due("60 nights, crossed", x.summers(3, 60, 0), 3);
    says("28: feet by which LINES lie otherwise at the end than now (as numbers without signs), all together");
    DoughBorder y = border("strip 2 0;mile 0 21 0 0;mile 1 19 0 0;village 0 21 0;village 1 19 0", "creep 1 if mile=0;creep 0-1");
    due("both ways", y.summers(1, 1, 1), 2);
    due("both ways, crossed", y.summers(1, 1, 0), 2);
    DoughBorder back = border("strip 2 0;village 0 20 0", "creep 1 if night%2=0;creep 0-1");
    due("there and back", back.summers(4, 2, 1), 0);
    due("there and back, crossed each night", back.summers(4, 2, 0), 8);
    DoughBorder baked = border("strip 2 3;baked 0;baked 1;village 0 20 0");
    due("all baked", baked.summers(10, 60, 1), 0);
    due("all baked", baked.summers(10, 60, 0), 0);
  }
}
