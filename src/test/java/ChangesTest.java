/** Promises 31 to 34: counts, undo, save and restore. */
public final class ChangesTest {
  private static final Due due = new Due("ChangesTest");

  public static void main(String[] args) {
    counts();
    eachChange();
    sixChanges();
    noChanges();
    whatStays();
    snapshots();
    due.end();
  }

  /** All that changes concern, as a text, but for weights and the rows of the grid. */
  private static String state(LineFollowerBench bench) {
    StringBuilder text = new StringBuilder(Due.described(bench)).append('|');
    for (int k = 0; k < 15; k++) {
      text.append(bench.setting(k)).append(' ');
    }
    for (int k = 0; k < bench.count(2); k++) {
      text.append('(').append(bench.point(k, 0)).append(' ').append(bench.point(k, 1)).append(')');
    }
    return text.append(bench.count(3)).toString();
  }

  private static LineFollowerBench bench() {
    LineFollowerBench bench = Due.loaded("s4;b5:6;p7:8*9");
    bench.setPoint(10, 20);
    bench.setPoint(30, 40);
    bench.setWeight(2, 33);
    bench.setGrid(1, 5, 6, 2);
    bench.set(13, 12);
    return bench;
  }

  private static void counts() {
    LineFollowerBench bench = bench();
    Due.type(bench, "xyz");
    int[] wanted = {2, 1, 2, 18, 9, 3, 6, 0};
    for (int k = 0; k < 8; k++) {
      int what = k;
      due.is("promise 31: count " + k, wanted[k], () -> bench.count(what));
    }
    bench.run();
    due.is("promise 31: steps of the trace", 12, () -> bench.count(7));
    bench.set(13, 99);
    due.is("promise 31: still of the trace", 12, () -> bench.count(7));
    due.is("promise 31: lengths", 8 * 99, () -> Due.loaded(
        "s99;s99;s99;s99;s99;s99;s99;s99;p0:0*1").count(4));
    for (int wrong : new int[] {-1, 8, Integer.MIN_VALUE, Integer.MAX_VALUE}) {
      due.fails("promise 31: count " + wrong, IllegalArgumentException.class, () -> bench.count(wrong));
    }
  }

  /** Leaves the state as it is, with no change that can be taken back. */
  private static void forgetChanges(LineFollowerBench bench) {
    for (int k = 0; k < 6; k++) {
      bench.set(14, bench.setting(14));
    }
    for (int k = 0; k < 6; k++) {
      bench.undo();
    }
  }

  private static void eachChange() {
    LineFollowerBench bench = bench();
    bench.search();
    bench.save();
    forgetChanges(bench);
    Runnable[] changes = {() -> bench.set(0, 1), () -> bench.set(0, 64), () -> bench.setPoint(20, 1),
      () -> bench.setPoint(10, 2), () -> bench.setPoint(10, 20), () -> bench.removePoint(10),
      () -> bench.setWeight(0, 2), () -> bench.setGrid(0, 1, 1, 1), () -> {
        Due.type(bench, "r1:1");
        bench.load();
      }, () -> bench.apply(false), bench::restore};
    for (int k = 0; k < changes.length; k++) {
      String before = state(bench);
      changes[k].run();
      due.is("promise 32: change " + k + " counts", 1, () -> bench.count(6));
      due.is("promise 32: change " + k + " is taken back", 0, bench::undo);
      due.compare("promise 32: change " + k + " is taken back", before, state(bench));
      due.fails("promise 32: no more than change " + k, IllegalStateException.class, bench::undo);
    }
    LineFollowerBench weights = bench();
    weights.run();
    long cost = weights.cost();
    weights.setWeight(0, 77);
    weights.undo();
    due.is("promise 32: weights", cost, weights::cost);
    for (int gain = 0; gain < 3; gain++) {
      int index = gain;
      // all costs are the same with two outputs, so that the first values are found
      LineFollowerBench firsts = Due.with("", 10, 1);
      firsts.setGrid(gain, 7, 1, 1);
      firsts.setGrid(gain, 500, 1, 1);
      firsts.undo();
      firsts.search();
      due.is("promise 32: the first value of gain " + gain, 7, () -> firsts.found(false, index));
    }
    LineFollowerBench steps = Due.with("", 12, 80, 13, 9);
    steps.search();
    due.is("promise 32: the best gain", 32, () -> steps.found(false, 0));
    steps.setGrid(0, 0, 1, 3);
    steps.undo();
    steps.search();
    due.is("promise 32: the step of the row", 32, () -> steps.found(false, 0));
  }

  private static void sixChanges() {
    LineFollowerBench bench = new LineFollowerBench();
    due.fails("promise 32: none", IllegalStateException.class, bench::undo);
    for (int k = 1; k <= 9; k++) {
      int value = k;
      bench.set(0, k);
      due.is("promise 31: changes after " + k, Math.min(6, value), () -> bench.count(6));
    }
    for (int k = 8; k >= 3; k--) {
      int value = k;
      due.is("promise 32: down to " + k, k - 3, bench::undo);
      due.is("promise 32: down to " + k, value, () -> bench.setting(0));
    }
    due.fails("promise 32: older ones are forgotten", IllegalStateException.class, bench::undo);
    due.is("promise 32: and stay", 3, () -> bench.setting(0));
    // what was forgotten is not remembered again
    for (int k = 1; k <= 7; k++) {
      bench.set(1, k);
    }
    bench.undo();
    bench.undo();
    bench.set(1, 50);
    due.is("promise 31: five", 5, () -> bench.count(6));
    int[] back = {5, 4, 3, 2, 1};
    for (int k = 0; k < 5; k++) {
      int value = back[k];
      due.is("promise 32: back to " + value, 4 - k, bench::undo);
      due.is("promise 32: back to " + value, value, () -> bench.setting(1));
    }
    due.fails("promise 32: not remembered again", IllegalStateException.class, bench::undo);
  }

  private static void noChanges() {
    LineFollowerBench bench = new LineFollowerBench();
    bench.setting(0);
    bench.table(0);
    bench.append('x');
    due.fails("promise 32: a wrong text", IllegalArgumentException.class, bench::load);
    bench.run();
    bench.hold();
    bench.search();
    bench.climb();
    bench.lowest(0, Long.MAX_VALUE);
    bench.save();
    due.is("promise 32: these are no changes", 0, () -> bench.count(6));
    bench.set(0, 1);
    bench.undo();
    due.is("promise 32: undo is none", 0, () -> bench.count(6));
    due.fails("promise 32: undo is none", IllegalStateException.class, bench::undo);
  }

  private static void whatStays() {
    LineFollowerBench bench = bench();
    bench.run();
    bench.hold();
    bench.search();
    bench.climb();
    String trace = Due.row(bench, 0);
    long found = bench.foundCost(false);
    long climbed = bench.foundCost(true);
    bench.save();
    bench.set(12, 900);
    bench.set(13, 7);
    Due.type(bench, "s0");
    due.fails("promise 12: an error", IllegalArgumentException.class, bench::load);
    Due.type(bench, "abc");
    for (int k = 0; k < 3; k++) {
      if (k == 0) {
        bench.undo();
      } else {
        bench.restore();
      }
      due.compare("promises 32, 34: the trace stays", trace, Due.row(bench, 0));
      due.is("promises 32, 34: the held one stays", 0, () -> bench.compare(0));
      due.is("promises 32, 34: what was found stays", found, () -> bench.foundCost(false));
      due.is("promises 32, 34: what was climbed stays", climbed, () -> bench.foundCost(true));
      due.is("promises 32, 34: the buffer stays", 3, () -> bench.count(5));
      due.is("promises 32, 34: the error position stays", 1, bench::errorPosition);
    }
  }

  private static void snapshots() {
    LineFollowerBench bench = bench();
    due.fails("promise 34: nothing was saved", IllegalStateException.class, bench::restore);
    due.is("promise 34: no change then", 6, () -> bench.count(6));
    String before = state(bench);
    bench.run();
    long cost = bench.cost();
    bench.search();
    long least = bench.foundCost(false);
    due.is("promise 33: segments", 2, bench::save);
    bench.set(3, 9);
    bench.removePoint(10);
    bench.setPoint(30, 41);
    bench.setWeight(2, 1);
    bench.setGrid(1, 700, 1, 2);
    Due.type(bench, "s1;p1:1*1;p2:2*2");
    bench.load();
    String changed = state(bench);
    due.is("promise 34: segments", 2, bench::restore);
    due.compare("promise 34: all of it", before, state(bench));
    due.is("promise 34: the weights", cost, bench::cost);
    bench.search();
    due.is("promise 34: the grid", least, () -> bench.foundCost(false));
    due.is("promise 32: a restore is taken back", 5, bench::undo);
    due.compare("promise 32: a restore is taken back", changed, state(bench));
    due.is("promise 34: it stays saved", 2, bench::restore);
    bench.set(3, 77);
    due.compare("promise 34: a change after it", "77", "" + bench.setting(3));
    bench.restore();
    due.compare("promise 33: what was saved does not change", before, state(bench));
    Due.type(bench, "s7");
    bench.load();
    due.is("promise 33: in place of the one before", 1, bench::save);
    bench.undo();
    due.is("promise 33: undo leaves what was saved", 1, bench::restore);
    due.compare("promise 34: the one saved last", "s7", Due.described(bench));
    due.is("promise 33: no segments", 0, () -> new LineFollowerBench().save());
  }
}
