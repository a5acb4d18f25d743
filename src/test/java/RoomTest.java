import com.sun.management.ThreadMXBean;
import java.lang.management.ManagementFactory;

/** A whole run of the dearest calls must stay far within the one room that all its calls share. */
public final class RoomTest {
  private static final long MOST_BYTES = 1_500_000;
  private static final int CALLS = 512;
  private static final ThreadMXBean THREADS = (ThreadMXBean) ManagementFactory.getThreadMXBean();
  private static int wrong = 0;

  public static void main(String[] args) {
    for (int kind = 0; kind < 12; kind++) {
      measure(kind);
      long bytes = measure(kind);
      if (bytes > MOST_BYTES) {
        wrong++;
        System.out.println("kind " + kind + ": " + bytes + " bytes");
      }
    }
    System.out.println(wrong == 0 ? "there is room" : "there is no room");
    if (wrong != 0) System.exit(1);
  }

  private static long measure(int kind) {
    int[][] strip = Texts.feeds("strip 10 1;village 9 21 0;want 0 0");
    int[][] rule = Texts.feeds("creep dough/20 if line<9 and not night=3;creep 0-1");
    long before = THREADS.getCurrentThreadAllocatedBytes();
    DoughBorder x = new DoughBorder();
    tell(x, rule, 50);
    x.rule();
    tell(x, strip, 34);
    x.strip();
    x.force(0);
    for (int k = 0; k < CALLS; k++) {
      // of the dearest calls a few do: they all make the same
      if (kind > 3 && k > 20) break;
      call(x, kind, strip);
    }
    return THREADS.getCurrentThreadAllocatedBytes() - before;
  }

  private static void tell(DoughBorder x, int[][] feeds, int length) {
    for (int[] f : feeds) x.feed(f[0], f[1], f[2], f[3], f[4]);
    x.end(length);
  }

  private static void call(DoughBorder x, int kind, int[][] strip) {
    switch (kind) {
      case 0: tell(x, strip, 34); x.strip(); break;
      case 1: x.rule(); break;
      case 2: x.night(); x.undo(); x.horses(0, 1); x.bake(1); break;
      case 3: x.image(0); x.back(0); x.ahead(0, 9, 2); x.crosses(0); break;
      case 4: x.push(3, 0); break;
      case 5: x.dukes(4, 0); break;
      case 6: x.log(3, 0, 10); x.theft(5, 0); break;
      case 7: x.weigh(5, 9, 0); break;
      case 8: x.crust(9, 0, 60, 0); break;
      case 9: x.peace(60, 1); break;
      case 10: x.summers(10, 60, 0); break;
      default: x.count(8); x.part(0); x.mile(0, 4); x.village(0, 3); break;
    }
  }
}
