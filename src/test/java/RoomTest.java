import java.lang.management.ManagementFactory;

/** All calls of a run live in one room: what 512 of the dearest calls allocate is kept small. */
public final class RoomTest {
  private static final long ROOM = 200_000;
  private static final Due due = new Due("RoomTest");

  public static void main(String[] args) {
    com.sun.management.ThreadMXBean threads =
        (com.sun.management.ThreadMXBean) ManagementFactory.getThreadMXBean();
    LineFollowerBench bench = Due.loaded("s9;r20:-50;p3:-100*9");
    for (int gain = 0; gain < 3; gain++) {
      bench.setGrid(gain, 0, 150, 6);
    }
    bench.set(0, 999);
    bench.set(13, 200);
    calls(bench, 2);
    long before = threads.getCurrentThreadAllocatedBytes();
    calls(bench, 64);
    long after = threads.getCurrentThreadAllocatedBytes();
    due.compare("bytes of 512 calls, " + (after - before), "true", "" + (after - before < ROOM));
    before = threads.getCurrentThreadAllocatedBytes();
    new LineFollowerBench();
    after = threads.getCurrentThreadAllocatedBytes();
    due.compare("bytes of an object, " + (after - before), "true", "" + (after - before < ROOM));
    due.end();
  }

  private static void calls(LineFollowerBench bench, int times) {
    for (int k = 0; k < times; k++) {
      bench.search();
      bench.climb();
      bench.lowest(0, Long.MAX_VALUE);
      bench.apply(false);
      bench.undo();
      bench.run();
      bench.describe(-1);
      bench.save();
    }
  }
}
