import java.util.function.Supplier;
import java.util.function.ToIntFunction;

/** Edges of the whole object: promises 1, 4, 29 to 31, and what 512 calls may do. */
public final class StateEdgesTest extends Checks {
  private static final int MAX = Integer.MAX_VALUE;
  private static final int MIN = Integer.MIN_VALUE;

  public static void main(String[] args) {
    newObject();
    withoutStrip();
    stripInPlace();
    stripRefused();
    counts();
    images();
    imageHoldsAll();
    imagesStay();
    neverMade();
    lastCalls();
    finish();
  }

  private static void newObject() {
    says("1: No STRIP, no RULES, none IN FORCE");
    DoughBorder x = new DoughBorder();
    counts("new", x, 0, 0, 0, 0, 0, -1, 0, 0, 0, 0, 0, 0, 0);
    for (int rule = 0; rule < 6; rule++) due("no rule " + rule, x.force(rule), -2);
    due("none in force", x.force(-1), -1);
    due("NONE", DoughBorder.NONE, -1);
    says("1: objects have nothing in common");
    DoughBorder y = border("strip 2 0;village 0 20 0", "creep 1");
    y.image(0);
    y.seed(5);
    y.feed(0, 0, 0, 0, 0);
    DoughBorder z = new DoughBorder();
    counts("another", z, 0, 0, 0, 0, 0, -1, 0, 0, 0, 0, 0, 0, 0);
    due("no image", z.back(0), -1);
  }

  private static void none(String call, ToIntFunction<DoughBorder> asked, int want) {
    idle(DoughBorder::new, call, asked, want);
  }

  private static void withoutStrip() {
    says("1: what each call answers without a STRIP");
    for (int k = 0; k <= 4; k++) {
      int what = k;
      none("mile 0 " + k, x -> x.mile(0, what), -100);
      none("village 0 " + k, x -> x.village(0, what), -100);
    }
    none("warm", x -> x.warm(0), -1);
    none("night", x -> x.night(), -1);
    none("horses", x -> x.horses(0, 1), -100);
    none("salt", x -> x.salt(0), -1);
    none("sugar", x -> x.sugar(0), -1);
    none("slice", x -> x.slice(0, 1), -1);
    none("bake", x -> x.bake(0) ? 1 : 0, 0);
    none("undo", x -> x.undo(), -2);
    none("ahead", x -> x.ahead(0, 0, 0), -100);
    none("ahead, who lies east", x -> x.ahead(0, 0, 2), -100);
    none("crosses", x -> x.crosses(0), -1);
    none("push", x -> x.push(1, 0), -3);
    none("push, a night there is not", x -> x.push(1, 2), -3);
    none("dukes", x -> x.dukes(1, 0), -100);
    none("log", x -> x.log(0, 0, 0), -2);
    none("log none", x -> x.log(-1, 0, 0), 0);
    none("theft", x -> x.theft(1, 0), -1);
    none("weigh", x -> x.weigh(1, 0, 0), -1);
    none("crust", x -> x.crust(0, 0, 1, 0), -2);
    none("peace", x -> x.peace(1, 0), -1);
    none("part", x -> x.part(0), -1);
    none("summers", x -> x.summers(1, 1, 0), -1);
  }

  private static void stripInPlace() {
    says("4: The TAPE, which is empty then, is the STRIP in place of the one there was: how many VILLAGES");
    DoughBorder x = rich();
    x.end(0);
    due("strip", Texts.strip(x, "strip 2 3;village 1 5 1"), 1);
    due("bytes", x.count(12), 0);
    due("miles", x.count(0), 2);
    due("damp", x.count(1), 3);
    due("wants", x.count(3), 0);
    due("night", x.count(6), 0);
    due("baked", x.count(7), 0);
    due("crossed", x.count(8), 0);
    due("no third mile", x.mile(2, 0), -100);
    due("no second village", x.village(1, 0), -100);
    due("warmth", x.warm(0), 0);
    says("4: (no LOGS, nothing to be UNDONE; ..)");
    due("logs", x.count(9), 0);
    due("thefts without logs", x.theft(5, 0), 60);
    due("acts", x.count(10), 0);
    due("undo", x.undo(), -2);
    says("4: the RULE IN FORCE and x stay");
    due("in force", x.count(5), 1);
    due("rules", x.count(4), 2);
    due("mile 0 by rule 1", x.ahead(0, 1, 0), -1);
    due("mile 1 by rule 1", x.ahead(1, 1, 0), 2);
    due("x", x.count(11), 12345);
    due("the image stays", x.back(1), 1);
    due("its miles", x.count(0), 3);
    says("4: .. or none stays in force");
    DoughBorder y = border("strip 2 1");
    Texts.rule(y, "creep 3");
    due("strip", Texts.strip(y, "strip 2 2"), 0);
    due("in force", y.count(5), -1);
    due("by damp", y.ahead(0, 1, 0), 2);
    says("4: a first STRIP behind a RULE that is IN FORCE");
    DoughBorder z = new DoughBorder();
    Texts.rule(z, "creep 0-2");
    z.force(0);
    due("strip", Texts.strip(z, "strip 2 2"), 0);
    due("in force", z.count(5), 0);
    z.night();
    lines("by the rule", z, -2, -2);
  }

  private static DoughBorder emptied() {
    DoughBorder x = rich();
    x.end(0);
    return x;
  }

  private static void stripRefused() {
    says("4: -2 - its FAULT, and all stays");
    String[] texts = {"", "strip 2", "strip 2 0;mile 0 0 0 10", "strip 10 3;baked 9;village 9 0 0;want 0 2"};
    int[] faults = {fault(0, 0), fault(7, 0), fault(21, 1), fault(40, 1)};
    for (int k = 0; k < texts.length; k++) {
      String text = texts[k];
      idle(StateEdgesTest::emptied, "strip '" + text + "'", x -> Texts.strip(x, text), faults[k]);
    }
    DoughBorder none = new DoughBorder();
    due("strip", Texts.strip(none, "strip 2 0;baked 2"), fault(16, 1));
    counts("behind a fault", none, 0, 0, 0, 0, 0, -1, 0, 0, 0, 0, 0, 0, 0);
    says("5: -2 - its FAULT");
    for (String text : new String[] {"", "creep", "creep 2 if 1=1;creep 3;"}) {
      idle(StateEdgesTest::emptied, "rule '" + text + "'", x -> Texts.rule(x, text), fault(text.length(), 0));
    }
    idle(() -> full(), "a seventh rule", x -> x.rule(), -1);
    says("2: NONE, and none comes");
    idle(() -> told(381), "feed behind 381", x -> x.feed(1, 2, 3, 4, 5), -1);
    idle(() -> told(400), "feed behind 400", x -> x.feed(1, 2, 3, 4, 5), -1);
    says("3: NONE, and nothing happens");
    for (int n : new int[] {8, 21, -1, MAX, MIN}) idle(Checks::rich, "end " + n, x -> x.end(n), -1);
  }

  private static DoughBorder full() {
    DoughBorder x = emptied();
    for (int k = 2; k < 6; k++) Texts.rule(x, "creep 0");
    Texts.tell(x, "creep 3");
    return x;
  }

  private static DoughBorder told(int bytes) {
    DoughBorder x = emptied();
    Texts.tell(x, "strip 2 0" + " ".repeat(bytes - 9));
    return x;
  }

  private static void counts() {
    says("29: What 0 .. 12. NONE for others");
    DoughBorder x = rich();
    counts("rich", x, 3, 1, 3, 2, 2, 1, 1, 4, x.count(8), 1, 5, 12345, 7);
    for (int what : new int[] {-1, 13, 14, MAX, MIN}) {
      due("count " + what, x.count(what), -1);
      due("new, count " + what, new DoughBorder().count(what), -1);
    }
    says("29: 8: how often VILLAGES were CROSSED, all together");
    DoughBorder y = border("strip 2 0" + ";village 1 20 0".repeat(8));
    for (int k = 1; k <= 30; k++) {
      y.horses(1, k % 2 == 0 ? -1 : 1);
      due("all eight", y.count(8), 8 * k);
    }
    says("29: 2: VILLAGES, 3: WANTS, 7: baked MILES, as bits, at their most");
    StringBuilder most = new StringBuilder("strip 10 3");
    for (int m = 0; m < 10; m++) most.append(";baked ").append(m);
    most.append(";village 0 0 0".repeat(8)).append(";want 0 0".repeat(8));
    counts("most", border(most.toString()), 10, 3, 8, 8, 0, -1, 0, 1023, 0, 0, 0, 0, 0);
  }

  private static void images() {
    says("30: An IMAGE is made: the NIGHT; NONE without it (IMAGES 0 to 3)");
    DoughBorder x = border("strip 2 0");
    for (int k = 0; k <= 3; k++) {
      due("image " + k, x.image(k), k);
      x.night();
    }
    for (int k : new int[] {-1, 4, 5, MAX, MIN}) {
      due("image " + k, x.image(k), -1);
      due("back " + k, x.back(k), -1);
    }
    due("night", x.count(6), 4);
    idle(Checks::rich, "image -1", r -> r.image(-1), -1);
    idle(Checks::rich, "image 4", r -> r.image(4), -1);
    says("31: All is as in an IMAGE: the NIGHT");
    for (int k : new int[] {3, 0, 2, 1}) {
      due("back " + k, x.back(k), k);
      due("night", x.count(6), k);
      due("acts", x.count(10), k);
    }
    says("30: an IMAGE is made anew in place of the one there was");
    x.back(3);
    due("image 0", x.image(0), 3);
    x.night();
    due("back 0", x.back(0), 3);
    due("the others stay", x.back(1), 1);
  }

  /** Changes all that an image holds, and what it does not. */
  private static void change(DoughBorder x) {
    x.end(0);
    Texts.rule(x, "creep 3");
    x.force(2);
    x.seed(999);
    x.log(-1, 0, 0);
    x.log(7, 1, 8);
    x.night();
    x.horses(0, 3);
    x.salt(0);
    x.bake(0);
  }

  private static void imageHoldsAll() {
    says("III: IMAGES: all but the RULES and the TAPE, as it is (the RULE IN FORCE, what can be UNDONE, too)");
    Supplier<DoughBorder> made = () -> {
      DoughBorder x = emptied();
      x.image(0);
      return x;
    };
    DoughBorder plain = made.get();
    DoughBorder gone = made.get();
    change(gone);
    due("back", gone.back(0), 1);
    due("rules stay", gone.count(4), 3);
    due("the rule in force is as it was", gone.count(5), 1);
    Texts.rule(plain, "creep 3");
    alike("going back", all(gone), all(plain));
    DoughBorder other = made.get();
    change(other);
    other.end(0);
    Texts.strip(other, "strip 10 3;village 9 40 1;warm 0 99 9");
    other.night();
    due("back, behind another strip", other.back(0), 1);
    DoughBorder again = made.get();
    Texts.rule(again, "creep 3");
    alike("going back behind another strip", all(other), all(again));
    says("III: IMAGES: of ten MILES, eight VILLAGES and ten LOGS, too");
    DoughBorder ten = border("strip 10 0;mile 9 20 50 5" + ";village 9 20 0".repeat(8));
    ten.horses(9, 3);
    ten.salt(9);
    for (int k = 0; k < 10; k++) ten.log(30 - k, 9, k < 9 ? 45 : 50);
    due("thefts by ten logs", ten.theft(5, 2), 22);
    String then = seen(ten);
    ten.image(3);
    ten.horses(9, -3);
    ten.sugar(9);
    ten.bake(9);
    ten.log(-1, 0, 0);
    for (int k = 0; k < 10; k++) ten.log(k, 0, 10);
    due("back", ten.back(3), 0);
    alike("going back", seen(ten), then);
    due("thefts by ten logs", ten.theft(5, 0), 1);
    due("thefts by ten logs", ten.theft(5, 2), 22);
    due("undo", ten.undo(), 1);
    due("salt of mile 9", ten.mile(9, 2), 5);
    due("undo", ten.undo(), 0);
    due("village 7 was not crossed", ten.village(7, 4), 0);
    says("III: IMAGES: the TAPE stays");
    DoughBorder tape = made.get();
    Texts.tell(tape, "strip 2 0;baked 1");
    due("back", tape.back(0), 1);
    due("bytes", tape.count(12), 17);
    due("as it was", tape.strip(), 0);
    due("baked", tape.count(7), 2);
    says("III: IMAGES: what can be UNDONE, up to 20 ACTS");
    DoughBorder acts = border("strip 2 0;mile 0 20 99 0");
    for (int k = 0; k < 27; k++) acts.slice(0, 1);
    acts.image(2);
    for (int k = 0; k < 13; k++) acts.slice(0, 1);
    for (int k = 0; k < 5; k++) acts.undo();
    due("back", acts.back(2), 0);
    due("acts", acts.count(10), 20);
    for (int k = 1; k <= 20; k++) {
      due("undo", acts.undo(), 20 - k);
      due("dough", acts.mile(0, 1), 72 + k);
    }
    due("no more", acts.undo(), -2);
    due("the image is as it was", acts.back(2), 0);
    due("acts", acts.count(10), 20);
  }

  private static void imagesStay() {
    says("III: IMAGES: gone back to, it is as it was (these stay)");
    DoughBorder x = border("strip 2 0");
    x.image(0);
    x.night();
    x.image(1);
    due("back 0", x.back(0), 0);
    due("image 1, made behind image 0, stays", x.back(1), 1);
    x.night();
    x.night();
    due("back 1 again", x.back(1), 1);
    due("back 0 again", x.back(0), 0);
    due("going back is no act", x.count(10), 0);
    due("nor can it be undone", x.undo(), -2);
    says("30: an IMAGE without a STRIP");
    DoughBorder none = new DoughBorder();
    due("image", none.image(3), 0);
    Texts.strip(none, "strip 2 0;village 0 20 0");
    none.night();
    none.log(0, 0, 0);
    due("back", none.back(3), 0);
    counts("no strip again", none, 0, 0, 0, 0, 0, -1, 0, 0, 0, 0, 0, 0, 0);
    due("no mile", none.mile(0, 0), -100);
    due("no night", none.night(), -1);
    due("no undo", none.undo(), -2);
    due("a strip again", Texts.strip(none, "strip 2 0"), 0);
    due("a night again", none.night(), 0);
  }

  private static void neverMade() {
    says("31: NONE, and nothing happens, if it was never made, or without it");
    for (int k : new int[] {0, 2, 3, -1, 4, MAX, MIN}) idle(Checks::rich, "back " + k, x -> x.back(k), -1);
    due("image 1 is made", rich().back(1), 1);
  }

  private static void lastCalls() {
    says("An object is used for at most 512 calls after it has been made");
    DoughBorder x = new DoughBorder();
    // feed, end, strip are three, then 127 times four, then one
    x.feed(0x73747269, 0x70203220, 0x303b7661, 0, 0);
    x.end(9);
    x.strip();
    for (int k = 0; k < 127; k++) {
      x.horses(0, k % 2 == 0 ? 1 : -1);
      x.night();
      x.image(k % 4);
      x.back(k % 4);
    }
    due("the 512th call", x.count(6), 127);
    DoughBorder strips = new DoughBorder();
    for (int k = 0; k < 170; k++) {
      strips.feed(0x73747269, 0x70203220, 0x303b7661, 0, 0);
      strips.end(9);
      due("strip", strips.strip(), 0);
    }
    due("the 511th call", strips.count(0), 2);
    due("the 512th call", strips.count(12), 0);
  }
}
