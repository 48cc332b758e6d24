import java.lang.management.ManagementFactory;

/** The room that a run has: an object is small, and its calls make nothing. */
public final class RoomTest {
  private static final Due DUE = new Due("RoomTest");
  private static final com.sun.management.ThreadMXBean THREADS =
      (com.sun.management.ThreadMXBean) ManagementFactory.getThreadMXBean();

  public static void main(String[] args) {
    // Once before, so that what the machine makes for itself is made.
    everyCall(new MatchFinders(300, 64));
    made();
    long before = made();
    MatchFinders x = new MatchFinders(300, 64);
    long ofObject = made() - before;
    DUE.holds("an object takes less than 40,000 bytes: " + ofObject, ofObject < 40_000);
    before = made();
    everyCall(x);
    long ofCalls = made() - before;
    DUE.holds("512 calls take less than 4,000 bytes: " + ofCalls, ofCalls < 4_000);
    DUE.end();
  }

  private static long made() {
    return THREADS.getThreadAllocatedBytes(Thread.currentThread().getId());
  }

  private static void everyCall(MatchFinders x) {
    for (int round = 0; round < 28; round++) {
      x.fill(100, round, 0);
      x.dictionary();
      x.fill(250 + round, round << 27, 2);
      x.add(1);
      x.size(0);
      x.octet(-1);
      x.longest(150, 0);
      x.chained(150, 0);
      x.front(150, -1, 0);
      for (int way = 0; way <= 3; way++) {
        x.pieces(way);
        x.share(way);
      }
      x.clear();
    }
  }
}
