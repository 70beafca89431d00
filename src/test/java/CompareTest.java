/** Promises 23 and 24: the held trace and comparisons with it. */
public final class CompareTest {
  private static final Due due = new Due("CompareTest");

  public static void main(String[] args) {
    holding();
    comparing();
    due.end();
  }

  private static void holding() {
    LineFollowerBench bench = Due.with("", 13, 3);
    due.fails("promise 23: no trace", IllegalStateException.class, bench::hold);
    due.fails("promise 24: no trace", IllegalStateException.class, () -> bench.compare(0));
    bench.run();
    due.fails("promise 24: none is held", IllegalStateException.class, () -> bench.compare(3));
    due.is("promise 23: steps", 3, bench::hold);
    due.fails("promise 24: what 3", IllegalArgumentException.class, () -> bench.compare(3));
    due.fails("promise 24: what -1", IllegalArgumentException.class, () -> bench.compare(-1));
    due.is("promise 24: the same, difference", 0, () -> bench.compare(0));
    due.is("promise 24: the same, first step", -1, () -> bench.compare(1));
    due.is("promise 24: the same, lesser", 0, () -> bench.compare(2));
    bench.set(13, 7);
    due.is("promise 23: the steps of the trace", 3, bench::hold);
    bench.set(12, 100);
    bench.run();
    due.is("promise 24: held as it was", 400, () -> bench.compare(0));
    due.is("promise 23: in place of the one before", 7, bench::hold);
    due.is("promise 24: the same again", 0, () -> bench.compare(0));
    due.is("promise 23: no change", 3, () -> bench.count(6));
  }

  private static void comparing() {
    LineFollowerBench bench = Due.with("p1:-30*1;p3:45*1", 13, 5, 12, 10, 0, 0);
    bench.run();
    // errors 10 10 -20 -20 25 25
    bench.hold();
    Due.type(bench, "p1:-50*1;p2:60*1;p3:-1*1");
    bench.load();
    bench.run();
    // errors 10 10 -40 20 19 19
    due.is("promise 24: greatest difference", 40, () -> bench.compare(0));
    due.is("promise 24: first difference", 2, () -> bench.compare(1));
    due.is("promise 24: lesser amounts", 2, () -> bench.compare(2));
    bench.set(13, 4);
    bench.run();
    due.is("promise 24: a shorter trace", 1, () -> bench.compare(2));
    bench.set(13, 2);
    bench.run();
    due.is("promise 24: up to its last error", 20, () -> bench.compare(0));
    due.is("promise 24: in its last error", 2, () -> bench.compare(1));
    due.is("promise 24: not lesser", 0, () -> bench.compare(2));
    bench.set(13, 1);
    bench.run();
    due.is("promise 24: none in both", -1, () -> bench.compare(1));
    bench.hold();
    bench.set(13, 200);
    bench.run();
    due.is("promise 24: a shorter held one", 0, () -> bench.compare(0));
    bench.set(12, -9);
    bench.run();
    due.is("promise 24: from step 0", 0, () -> bench.compare(1));
    due.is("promise 24: amounts of all that both have", 2, () -> bench.compare(2));
    due.is("promise 24: over the signs", 19, () -> bench.compare(0));
    lastErrors();
  }

  /** A difference in the last error that both have. */
  private static void lastErrors() {
    for (int[] steps : new int[][] {{5, 5}, {5, 9}, {9, 5}, {200, 200}}) {
      LineFollowerBench bench = Due.with("", 13, steps[0], 12, 10, 0, 0);
      int last = Math.min(steps[0], steps[1]);
      bench.run();
      bench.hold();
      bench.set(13, steps[1]);
      Due.type(bench, "p" + (last - 1) + ":-3*1");
      bench.load();
      bench.run();
      due.is("promise 24: difference in the last error", 3, () -> bench.compare(0));
      due.is("promise 24: the last error", last, () -> bench.compare(1));
      due.is("promise 24: the last error is less", 1, () -> bench.compare(2));
    }
  }
}
