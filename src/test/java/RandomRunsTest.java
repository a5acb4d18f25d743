import java.util.Random;

/** Runs of calls made by chance, each answered by the class and by the document told plainly a second time. */
public final class RandomRunsTest {
  private static int wrong = 0;

  public static void main(String[] args) {
    int runs = args.length > 0 ? Integer.parseInt(args[0]) : 1500;
    long first = args.length > 1 ? Long.parseLong(args[1]) : 1;
    for (int k = 0; k < runs && wrong == 0; k++) new RandomRunsTest(first + k).run();
    System.out.println(wrong == 0 ? runs + " runs are alike" : "runs differ");
    if (wrong != 0) System.exit(1);
  }

  private final long number;
  private final Random r;
  private final DoughBorder x = new DoughBorder();
  private final PlainBorder y = new PlainBorder();
  private final StringBuilder told = new StringBuilder();

  private RandomRunsTest(long number) {
    this.number = number;
    r = new Random(number * 7919);
  }

  private void due(String call, int got, int want) {
    told.append(call).append(" = ").append(got).append('\n');
    if (got != want) {
      wrong++;
      System.out.println("run " + number + ":\n" + told + "due is " + want);
    }
  }

  private void run() {
    if (r.nextInt(10) > 0) rule();
    if (r.nextInt(20) > 0) strip();
    int calls = 20 + r.nextInt(100);
    for (int k = 0; k < calls && wrong == 0; k++) {
      step();
      if (r.nextInt(4) == 0) all();
    }
  }

  private int mile() { return r.nextInt(12) == 0 ? r.nextInt(13) - 1 : r.nextInt(Math.max(1, x.count(0))); }
  private int village() { return r.nextInt(12) == 0 ? r.nextInt(11) - 1 : r.nextInt(Math.max(1, x.count(2))); }
  private int upTo(int low, int high) {
    return r.nextInt(15) == 0 ? (r.nextBoolean() ? low - 1 : high + 1) : low + r.nextInt(high - low + 1);
  }

  private void tell(String text) {
    for (int[] f : Texts.feeds(text)) {
      due("feed", x.feed(f[0], f[1], f[2], f[3], f[4]), y.feed(f));
    }
    due("end " + text.length(), x.end(text.length()), y.end(text.length()));
    told.append(text).append('\n');
  }

  private void strip() {
    String text = Texts.someStrip(r);
    tell(Texts.cut(r.nextInt(4) == 0 ? Texts.spoilt(text, r) : text));
    due("strip", x.strip(), y.strip());
  }

  private void rule() {
    String text = Texts.someRule(r);
    tell(Texts.cut(r.nextInt(4) == 0 ? Texts.spoilt(text, r) : text));
    due("rule", x.rule(), y.rule());
    due("end 0", x.end(0), y.end(0));
    int f = x.count(4) - 1;
    due("force " + f, x.force(f), y.force(f));
  }

  /** Everything that can be seen without looking ahead. */
  private void all() {
    for (int k = -1; k < 14; k++) due("count " + k, x.count(k), y.count(k));
    for (int m = -1; m < 11; m++) {
      for (int k = -1; k < 6; k++) due("mile " + m + " " + k, x.mile(m, k), y.mile(m, k));
    }
    for (int v = -1; v < 9; v++) {
      for (int k = -1; k < 6; k++) due("village " + v + " " + k, x.village(v, k), y.village(v, k));
    }
    int n = r.nextInt(130) - 5;
    due("warm " + n, x.warm(n), y.warm(n));
    for (int k = -1; k < 3; k++) due("part " + k, x.part(k), y.part(k));
  }

  private void step() {
    int kind = r.nextInt(33);
    if (kind == 32) wild();
    else if (kind < 18) act(kind);
    else ask(kind);
  }

  private void act(int kind) {
    int m = mile();
    int v;
    switch (kind) {
      case 0: case 1: case 2: case 3: due("night", x.night(), y.night()); break;
      case 4: case 5: v = upTo(-3, 3); due("horses " + m + " " + v, x.horses(m, v), y.horses(m, v)); break;
      case 6: due("salt " + m, x.salt(m), y.salt(m)); break;
      case 7: due("sugar " + m, x.sugar(m), y.sugar(m)); break;
      case 8: v = r.nextInt(30); due("slice " + m + " " + v, x.slice(m, v), y.slice(m, v)); break;
      case 9: if (r.nextInt(3) == 0) due("bake " + m, x.bake(m) ? 1 : 0, y.bake(m) ? 1 : 0); break;
      case 10: due("undo", x.undo(), y.undo()); break;
      case 11: v = r.nextInt(8) - 2; due("force " + v, x.force(v), y.force(v)); break;
      case 12: v = r.nextInt(9) == 0 ? -r.nextInt(9) : r.nextInt() & 0x7fffffff; due("seed " + v, x.seed(v), y.seed(v)); break;
      case 13: v = upTo(0, 3); due("image " + v, x.image(v), y.image(v)); break;
      case 14: v = upTo(0, 3); due("back " + v, x.back(v), y.back(v)); break;
      case 15: logs(m); break;
      case 16: if (r.nextInt(3) == 0) rule(); break;
      default: if (r.nextInt(4) == 0) strip(); break;
    }
  }

  private void logs(int m) {
    if (r.nextInt(4) == 0) due("log none", x.log(-1, m, 3), y.log(-1, m, 3));
    int n = upTo(0, 30);
    int d = r.nextInt(3) == 0 ? upTo(0, 99) : Math.max(0, x.ahead(Math.max(0, m), Math.max(0, Math.min(n, 30)), 1) - r.nextInt(2) * 5);
    due("log " + n + " " + m + " " + d, x.log(n, m, d), y.log(n, m, d));
  }

  private void ask(int kind) {
    int m = mile(), v = village(), n, w;
    switch (kind) {
      case 18: case 19: n = upTo(0, 100); w = upTo(0, 2); due("ahead " + m + " " + n + " " + w, x.ahead(m, n, w), y.ahead(m, n, w)); break;
      case 20: case 21: due("crosses " + v, x.crosses(v), y.crosses(v)); break;
      case 22: n = upTo(1, x.count(0) > 6 && r.nextInt(5) > 0 ? 2 : 3); for (w = -1; w < 5; w++) due("push " + n + " " + w, x.push(n, w), y.push(n, w)); break;
      case 23: n = upTo(1, x.count(0) > 4 && r.nextInt(5) > 0 ? 2 : 4); for (w = -1; w < 3; w++) due("dukes " + n + " " + w, x.dukes(n, w), y.dukes(n, w)); break;
      case 24: case 25: n = r.nextInt(3) > 0 ? 5 : upTo(1, 99); for (w = -1; w < 4; w++) due("theft " + n + " " + w, x.theft(n, w), y.theft(n, w)); break;
      case 26: n = r.nextInt(3) > 0 ? 5 : upTo(1, 99); int at = upTo(0, 30); for (w = -1; w < 3; w++) due("weigh " + n + " " + at + " " + w, x.weigh(n, at, w), y.weigh(n, at, w)); break;
      case 27: case 28: n = upTo(1, r.nextInt(3) == 0 ? 60 : 12); for (w = -1; w < 3; w++) due("crust " + m + " " + v + " " + n + " " + w, x.crust(m, v, n, w), y.crust(m, v, n, w)); break;
      case 29: n = upTo(1, r.nextInt(3) == 0 ? 60 : 8); for (w = -1; w < 3; w++) due("peace " + n + " " + w, x.peace(n, w), y.peace(n, w)); break;
      default: n = upTo(1, 60); int times = upTo(1, 10); for (w = -1; w < 3; w++) due("summers " + times + " " + n + " " + w, x.summers(times, n, w), y.summers(times, n, w)); break;
    }
  }

  private int any() {
    int[] some = {Integer.MIN_VALUE, Integer.MAX_VALUE, -1, 0, 1, 2, 7, 8, 10, 20, 31, 32, 60, 99, 100, -3, -20, 1 << 30};
    return r.nextInt(3) == 0 ? r.nextInt() : some[r.nextInt(some.length)];
  }

  /** Any numbers at all. */
  private void wild() {
    int a = any(), b = any(), c = any(), d = any();
    String with = " " + a + " " + b + " " + c + " " + d;
    due("feed" + with, x.feed(a, b, c, d, a), y.feed(a, b, c, d, a));
    due("end" + with, x.end(a), y.end(a));
    due("force" + with, x.force(a), y.force(a));
    due("mile" + with, x.mile(a, b), y.mile(a, b));
    due("village" + with, x.village(a, b), y.village(a, b));
    due("warm" + with, x.warm(a), y.warm(a));
    due("horses" + with, x.horses(a, b), y.horses(a, b));
    due("salt" + with, x.salt(a), y.salt(a));
    due("sugar" + with, x.sugar(a), y.sugar(a));
    due("slice" + with, x.slice(a, b), y.slice(a, b));
    due("bake" + with, x.bake(a) ? 1 : 0, y.bake(a) ? 1 : 0);
    due("ahead" + with, x.ahead(a, b, c), y.ahead(a, b, c));
    due("crosses" + with, x.crosses(a), y.crosses(a));
    due("push" + with, x.push(a, b), y.push(a, b));
    due("dukes" + with, x.dukes(a, b), y.dukes(a, b));
    due("log" + with, x.log(a, b, c), y.log(a, b, c));
    due("theft" + with, x.theft(a, b), y.theft(a, b));
    due("weigh" + with, x.weigh(a, b, c), y.weigh(a, b, c));
    due("crust" + with, x.crust(a, b, c, d), y.crust(a, b, c, d));
    due("peace" + with, x.peace(a, b), y.peace(a, b));
    due("part" + with, x.part(a), y.part(a));
    due("seed" + with, x.seed(a), y.seed(a));
    due("summers" + with, x.summers(a, b, c), y.summers(a, b, c));
    due("count" + with, x.count(a), y.count(a));
    due("image" + with, x.image(a), y.image(a));
    due("back" + with, x.back(b), y.back(b));
    due("strip, with whatever the tape has", x.strip(), y.strip());
    due("rule, with an empty tape", x.rule(), y.rule());
    due("end 0", x.end(0), y.end(0));
  }
}
