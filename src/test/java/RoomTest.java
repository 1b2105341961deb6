import com.sun.management.ThreadMXBean;
import java.lang.management.ManagementFactory;

/** What a run makes: the rows of the constructor, and nothing in any call. */
public final class RoomTest {
  private static final ThreadMXBean THREADS = (ThreadMXBean) ManagementFactory.getThreadMXBean();
  private static final String MAP = "p#s#t#p#s#/........../#t#p#s#p#t";
  private static final long[] WORDS = {
    Check.packed(MAP, 0), Check.packed(MAP, 8), Check.packed(MAP, 16), Check.packed(MAP, 24),
  };

  public static void main(String[] args) {
    longRun(new FleetController());
    long before = made();
    FleetController x = new FleetController();
    long atFirst = made();
    longRun(x);
    long atLast = made();
    Check.due("bytes of a new object are at most 200000", atFirst - before > 200000 ? atFirst - before : 0, 0);
    Check.due("bytes that calls make are at most 4000", atLast - atFirst > 4000 ? atLast - atFirst : 0, 0);
    Check.due("the run did its work: brought", x.robotOf(0, 6) + x.robotOf(1, 6), 80);
    Check.end();
  }

  private static long made() {
    return THREADS.getThreadAllocatedBytes(Thread.currentThread().getId());
  }

  private static void longRun(FleetController x) {
    for (long w : WORDS) {
      x.type(w);
    }
    for (int again = 0; again < 8; again++) {
      x.read();
      x.robot(0);
      x.robot(6);
      for (int i = 0; i < 40; i++) {
        x.order(i % 2 == 0 ? 4 : 29, 2, 8, -1);
      }
      for (int i = 0; i < 19; i++) {
        x.tick(200);
        x.distance(0, 29);
        x.cancel(i);
      }
    }
  }
}
