import java.util.function.Consumer;
import java.util.function.Supplier;

/** Boundary cases of promises 23 and 24: the held trace and comparisons with it. */
public final class BoundaryCompareTest extends Boundary {
  public static void main(String[] args) {
    new BoundaryCompareTest().runAll(23, 24);
  }

  @Override
  void tests() {
    holding();
    heldStays();
    leaving();
    nothingToCompare();
    wrongWhats();
    equalTraces();
    firstDifferences();
    lengths();
    amounts();
  }

  private void holding() {
    refused(23, "no trace", STATE, FRESH, LineFollowerBench::hold);
    refused(23, "no trace, although search made runs", STATE, () -> {
      LineFollowerBench bench = new LineFollowerBench();
      bench.search();
      bench.climb();
      bench.lowest(0, Long.MAX_VALUE);
      return bench;
    }, LineFollowerBench::hold);
    answers(23, "one step", 1, () -> ran("", 13, 1), LineFollowerBench::hold);
    answers(23, "200 steps", 200, () -> ran("", 13, 200), LineFollowerBench::hold);
    test(23, "a refused one holds nothing", () -> {
      LineFollowerBench bench = new LineFollowerBench();
      fails(STATE, bench::hold);
      bench.run();
      fails(STATE, () -> bench.compare(0));
    });
    test(23, "the number of steps of the trace, not of the setting", () -> {
      LineFollowerBench bench = ran("", 13, 3);
      bench.set(13, 200);
      is(3, bench::hold);
    });
    test(23, "a shorter one in place of a longer one", () -> {
      LineFollowerBench bench = ran("p5:7*1", 13, 9, 0, 0);
      bench.hold();
      bench.set(13, 2);
      bench.run();
      is(2, bench::hold);
      bench.set(12, -500);
      bench.set(13, 9);
      bench.run();
      is(1000, () -> bench.compare(0));
    });
    test(23, "the same trace twice", () -> {
      LineFollowerBench bench = ran("", 13, 3);
      bench.hold();
      is(3, bench::hold);
      is(-1, () -> bench.compare(1));
    });
    test(23, "it is no change", () -> {
      LineFollowerBench bench = ran("");
      bench.hold();
      is(0, () -> bench.count(6));
    });
    test(23, "it leaves the trace", () -> {
      LineFollowerBench twin = rich();
      LineFollowerBench bench = rich();
      is(4, bench::hold);
      for (int what = 0; what < 6; what++) {
        same(Due.row(twin, what), Due.row(bench, what));
      }
    });
  }

  /** What is held stays as it was: a trace of three errors of 500. */
  private void heldStays() {
    stays("run", LineFollowerBench::run);
    stays("undo", b -> {
      b.undo();
      b.undo();
    });
    stays("restore", b -> {
      b.save();
      b.restore();
    });
    stays("search and climb", b -> {
      b.search();
      b.climb();
    });
    stays("load", b -> {
      type(b, "b9:9");
      b.load();
    });
  }

  private void stays(String name, Consumer<LineFollowerBench> calls) {
    test(23, "the held one stays, " + name, () -> {
      LineFollowerBench bench = ran("", 13, 2, 0, 0);
      bench.hold();
      calls.accept(bench);
      bench.set(13, 2);
      bench.set(0, 0);
      bench.set(12, 490);
      bench.set(10, 1);
      bench.set(11, 1000);
      bench.run();
      same("490", "" + bench.trace(0, 0));
      is(10, () -> bench.compare(0));
      is(0, () -> bench.compare(1));
      is(3, () -> bench.compare(2));
    });
  }

  private void leaving() {
    leavesAll(23, "the first one changes nothing else", () -> ran(""), LineFollowerBench::hold, "held");
    leavesAll(23, "another one changes nothing else", RICH, LineFollowerBench::hold, "held");
    leavesAll(23, "the same one again changes nothing", () -> {
      LineFollowerBench bench = rich();
      bench.hold();
      return bench;
    }, LineFollowerBench::hold);
  }

  private void nothingToCompare() {
    for (int k = 0; k < 3; k++) {
      int what = k;
      refused(24, "no trace and none held, " + what, STATE, FRESH, b -> b.compare(what));
      refused(24, "none is held, " + what, STATE, () -> ran("", 13, 2), b -> b.compare(what));
    }
    refused(24, "no trace comes before what -1", STATE, FRESH, b -> b.compare(-1));
    refused(24, "no trace comes before what 3", STATE, FRESH, b -> b.compare(3));
    refused(24, "none is held comes before what -1", STATE, () -> ran("", 13, 2), b -> b.compare(-1));
    refused(24, "none is held comes before what 3", STATE, () -> ran("", 13, 2), b -> b.compare(3));
  }

  private void wrongWhats() {
    for (int what : new int[] {-1, 3, MIN, MAX}) {
      refused(24, "what " + what, ARGUMENT, RICH, b -> b.compare(what));
    }
    for (int k = 0; k < 3; k++) {
      int what = k;
      leavesAll(24, "what " + what + " leaves all as it is", RICH, b -> b.compare(what));
    }
  }

  /** A trace of so many steps is held; then one with a push in one step, of so many steps. Errors of 10 at first. */
  private static Supplier<LineFollowerBench> compared(int heldSteps, int step, int push, int steps) {
    return () -> {
      LineFollowerBench bench = ran("", 13, heldSteps, 12, 10, 0, 0);
      bench.hold();
      type(bench, "p" + step + ":" + push + "*1");
      bench.load();
      bench.set(13, steps);
      bench.run();
      return bench;
    };
  }

  private void all(String name, int greatest, int first, int lesser, Supplier<LineFollowerBench> bench) {
    test(24, name, () -> {
      LineFollowerBench one = bench.get();
      is(greatest, () -> one.compare(0));
      is(first, () -> one.compare(1));
      is(lesser, () -> one.compare(2));
    });
  }

  private void equalTraces() {
    all("the trace with itself", 0, -1, 0, () -> {
      LineFollowerBench bench = ran("");
      bench.hold();
      return bench;
    });
    all("the same run again", 0, -1, 0, compared(5, 4, 0, 5));
    all("the same as far as both go, the trace longer", 0, -1, 0, compared(3, 3, 7, 9));
    all("the same as far as both go, the held one longer", 0, -1, 0, compared(9, 3, 7, 3));
    all("the same as far as both go, one step against 200", 0, -1, 0, compared(1, 1, 7, 200));
    all("the same as far as both go, 200 steps against one", 0, -1, 0, compared(200, 1, 7, 1));
  }

  private void firstDifferences() {
    all("different from step 0 on", 1, 0, 3, () -> {
      LineFollowerBench bench = ran("", 13, 2, 12, 10, 0, 0);
      bench.hold();
      bench.set(12, 9);
      bench.run();
      return bench;
    });
    all("different from step 1 on", 3, 1, 2, compared(2, 0, -3, 2));
    all("different in the last error alone", 3, 2, 1, compared(2, 1, -3, 2));
    all("different in the last error alone, of one step", 3, 1, 1, compared(1, 0, -3, 1));
    all("different in the last error alone, of 200 steps", 3, 200, 1, compared(200, 199, -3, 200));
    all("different by 1", 1, 2, 1, compared(2, 1, -1, 2));
    all("different by 1, but greater", 1, 2, 0, compared(2, 1, 1, 2));
    all("different once, and then the same again", 3, 1, 1, () -> {
      LineFollowerBench bench = ran("", 13, 4, 12, 10, 0, 0);
      bench.hold();
      type(bench, "p0:-3*1;p1:3*1");
      bench.load();
      bench.run();
      return bench;
    });
  }

  private void lengths() {
    all("the last error that both have, the trace longer", 3, 3, 1, compared(3, 2, -3, 9));
    all("the last error that both have, the held one longer", 3, 3, 1, compared(9, 2, -3, 3));
    all("errors of a longer run before the trace", 0, -1, 0, () -> {
      LineFollowerBench bench = ran("", 13, 9, 12, 10, 0, 0);
      bench.hold();
      bench.set(12, 1);
      bench.run();
      bench.set(12, 10);
      bench.set(13, 2);
      bench.run();
      return bench;
    });
    all("errors of a longer run before the held trace", 0, -1, 0, () -> {
      LineFollowerBench bench = ran("", 13, 9, 12, 11, 0, 0);
      bench.set(12, 10);
      bench.set(13, 2);
      bench.run();
      bench.hold();
      bench.set(13, 9);
      bench.run();
      return bench;
    });
    all("the first error that only the trace has", 0, -1, 0, compared(3, 3, -3, 4));
    all("the first error that only the held one has", 0, -1, 0, compared(4, 3, -3, 3));
  }

  /** One error of -10 is held, with 0 behind it; the trace has one of this start, with 0 behind it. */
  private void below(String name, int lesser, int start) {
    test(24, name, () -> {
      LineFollowerBench bench = ran("p0:10*1", 13, 1, 12, -10, 0, 0);
      bench.hold();
      type(bench, "p0:" + -start + "*1");
      bench.load();
      bench.set(12, start);
      bench.run();
      is(lesser, () -> bench.compare(2));
      is(Math.abs(start + 10), () -> bench.compare(0));
      is(start == -10 ? -1 : 0, () -> bench.compare(1));
    });
  }

  private void amounts() {
    all("opposite signs with the same amount are not lesser", 20, 1, 0, compared(1, 0, -20, 1));
    all("opposite signs with an amount lesser by 1", 19, 1, 1, compared(1, 0, -19, 1));
    all("opposite signs with an amount greater by 1", 21, 1, 0, compared(1, 0, -21, 1));
    all("an error of 0", 10, 1, 1, compared(1, 0, -10, 1));
    below("held errors below 0 of a greater amount", 1, -9);
    below("held errors below 0 of the same amount", 0, -10);
    below("held errors below 0 of a lesser amount", 0, -11);
    below("held errors below 0 of a greater amount, the trace above 0", 1, 9);
    below("held errors below 0 of the same amount, the trace above 0", 0, 10);
    below("held errors below 0 of a lesser amount, the trace above 0", 0, 11);
    test(24, "the greatest difference of all, 20000", () -> {
      String up = "p0:500*9;p0:500*9;p0:500*9;p0:500*9";
      LineFollowerBench bench = ran(up, 13, 9, 12, 0, 0, 0);
      bench.hold();
      type(bench, "p0:-500*9;p0:-500*9;p0:-500*9;p0:-500*9");
      bench.load();
      bench.run();
      is(20000, () -> bench.compare(0));
      is(1, () -> bench.compare(1));
      is(0, () -> bench.compare(2));
    });
    test(24, "the difference has no sign", () -> {
      LineFollowerBench bench = compared(2, 0, 7, 2).get();
      is(7, () -> bench.compare(0));
      bench.hold();
      bench.undo();
      bench.undo();
      bench.run();
      is(7, () -> bench.compare(0));
    });
  }
}
