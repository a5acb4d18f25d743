import java.util.Random;
import java.util.function.IntSupplier;

/**
 * Whole lives of objects, 512 calls each, on strips as great as can be told, with the dearest questions: each call
 * is answered by the class and by the document told plainly a second time.
 */
public final class LongRunsTest {
  private static final int CALLS = 512;
  private static int wrong = 0;

  public static void main(String[] args) {
    int runs = args.length > 0 ? Integer.parseInt(args[0]) : 20;
    long first = args.length > 1 ? Long.parseLong(args[1]) : 1;
    for (int k = 0; k < runs && wrong == 0; k++) new LongRunsTest(first + k).run();
    System.out.println(wrong == 0 ? runs + " long runs are alike" : "long runs differ");
    if (wrong != 0) System.exit(1);
  }

  private final long number;
  private final Random r;
  private final int miles;
  private final DoughBorder x = new DoughBorder();
  private final PlainBorder y = new PlainBorder();
  private final StringBuilder told = new StringBuilder();
  private int calls = 0;

  private LongRunsTest(long number) {
    this.number = number;
    r = new Random(number * 104729);
    miles = 7 + r.nextInt(4);
  }

  /** One call of the object's 512; those that would come behind them are not made. */
  private void call(String name, IntSupplier got, IntSupplier want) {
    if (calls >= CALLS || wrong > 0) return;
    calls++;
    int answer = got.getAsInt();
    int due = want.getAsInt();
    told.append(name).append(" = ").append(answer).append('\n');
    if (answer != due) {
      wrong++;
      System.out.println("run " + number + ":\n" + told + "due is " + due);
    }
  }

  private void run() {
    tell(strip());
    call("strip", x::strip, y::strip);
    for (int k = r.nextInt(5); k > 0; k--) {
      tell(Texts.cut(Texts.someRule(r)));
      call("rule", x::rule, y::rule);
    }
    while (calls < CALLS && wrong == 0) {
      force();
      for (int k = r.nextInt(100); k > 0; k--) act();
      ask();
      see();
    }
  }

  private void tell(String text) {
    told.append(text).append('\n');
    for (int[] f : Texts.feeds(text)) call("feed", () -> x.feed(f[0], f[1], f[2], f[3], f[4]), () -> y.feed(f));
    call("end", () -> x.end(text.length()), () -> y.end(text.length()));
  }

  private String strip() {
    StringBuilder s = new StringBuilder("strip " + miles + " " + r.nextInt(4));
    for (int v = 0; v < 8; v++) {
      s.append(";village " + r.nextInt(miles) + " " + (12 + r.nextInt(17)) + " " + r.nextInt(2));
    }
    for (int k = r.nextInt(4); k > 0; k--) s.append(";want " + r.nextInt(8) + " " + r.nextInt(2));
    for (int k = r.nextInt(3); k > 0; k--) {
      int first = r.nextInt(50);
      s.append(";warm " + first + " " + (first + r.nextInt(50)) + " " + (1 + r.nextInt(9)));
    }
    if (r.nextInt(3) == 0) s.append(";baked " + r.nextInt(miles));
    for (int m = 0; m < miles && s.length() < 380; m++) {
      s.append(";mile " + m + " " + (10 + r.nextInt(21)) + " " + r.nextInt(100) + " " + r.nextInt(10));
    }
    return s.toString();
  }

  private void force() {
    int rule = r.nextInt(6) - 1;
    call("force " + rule, () -> x.force(rule), () -> y.force(rule));
  }

  private void act() {
    int m = r.nextInt(miles);
    int v = r.nextInt(7) - 3;
    int k = r.nextInt(4);
    switch (r.nextInt(20)) {
      case 0: call("horses " + m + " " + v, () -> x.horses(m, v), () -> y.horses(m, v)); break;
      case 1: call("sugar " + m, () -> x.sugar(m), () -> y.sugar(m)); break;
      case 2: call("salt " + m, () -> x.salt(m), () -> y.salt(m)); break;
      case 3: call("slice " + m + " " + (10 + v), () -> x.slice(m, 10 + v), () -> y.slice(m, 10 + v)); break;
      case 4: call("undo", x::undo, y::undo); break;
      case 5: call("image " + k, () -> x.image(k), () -> y.image(k)); break;
      case 6: if (k == 0) call("back " + v, () -> x.back(v), () -> y.back(v)); break;
      case 7: if (k == 0) call("bake " + m, () -> x.bake(m) ? 1 : 0, () -> y.bake(m) ? 1 : 0); break;
      default: call("night", x::night, y::night); break;
    }
  }

  /** The dearest of each kind of question. */
  private void ask() {
    int m = r.nextInt(miles);
    int v = r.nextInt(8);
    int size = 1 + r.nextInt(40);
    int night = r.nextInt(31);
    int dough = r.nextInt(100);
    int seed = r.nextInt() & Integer.MAX_VALUE;
    for (int k = 0; k < 4; k++) {
      int w = k;
      call("push 3 " + w, () -> x.push(3, w), () -> y.push(3, w));
    }
    call("crosses " + v, () -> x.crosses(v), () -> y.crosses(v));
    call("seed " + seed, () -> x.seed(seed), () -> y.seed(seed));
    if (r.nextInt(3) == 0) call("log", () -> x.log(-1, 0, 0), () -> y.log(-1, 0, 0));
    call("log " + night + " " + m + " " + dough, () -> x.log(night, m, dough), () -> y.log(night, m, dough));
    for (int k = 0; k < 2; k++) {
      int w = k;
      call("dukes 4 " + w, () -> x.dukes(4, w), () -> y.dukes(4, w));
      call("theft " + size + " " + w, () -> x.theft(size, w), () -> y.theft(size, w));
      call("weigh " + size + " " + w, () -> x.weigh(size, night, w), () -> y.weigh(size, night, w));
      call("crust " + m + " " + v + " " + w, () -> x.crust(m, v, 60, w), () -> y.crust(m, v, 60, w));
      call("peace " + w, () -> x.peace(60 - night, w), () -> y.peace(60 - night, w));
      call("part " + w, () -> x.part(w), () -> y.part(w));
      call("summers " + w, () -> x.summers(10, 60, w), () -> y.summers(10, 60, w));
      call("ahead " + m + " " + w, () -> x.ahead(m, 100, 2 * w), () -> y.ahead(m, 100, 2 * w));
    }
  }

  private void see() {
    for (int k = 5; k < 12; k++) {
      int w = k;
      call("count " + w, () -> x.count(w), () -> y.count(w));
    }
    for (int k = 0; k < miles; k++) {
      int m = k;
      call("mile " + m, () -> x.mile(m, 0), () -> y.mile(m, 0));
    }
  }
}
