/** Promises 1 to 3, 8 and 9: a new object, settings, weights and the grid. */
public final class SettingsTest {
  private static final Due due = new Due("SettingsTest");
  private static final int[][] RANGES = {
    {0, 999, 64}, {0, 999, 0}, {0, 999, 0}, {1, 1000, 400}, {1, 1000, 1000}, {1, 100, 1}, {0, 5, 0},
    {0, 3, 0}, {0, 100000, 10000}, {0, 64, 16}, {0, 2, 0}, {0, 1000, 50}, {-2000, 2000, 500},
    {1, 200, 60}, {0, 1000, 20}};

  public static void main(String[] args) {
    newObject();
    settings();
    weights();
    grid();
    due.end();
  }

  private static void newObject() {
    LineFollowerBench bench = new LineFollowerBench();
    for (int what = 0; what < 8; what++) {
      int number = what;
      due.is("promise 1: count " + what, what == 3 ? 27 : 0, () -> bench.count(number));
    }
    due.is("promise 1: description", 0, () -> bench.describe(-1));
    due.is("promise 1: error position", -1, bench::errorPosition);
    due.is("promise 1: table", 0, () -> bench.table(1000));
    due.is("promise 1: curvature", 0, () -> bench.curvature(0));
    due.is("promise 1: push", 0, () -> bench.push(0));
    due.fails("promise 1: no point", java.util.NoSuchElementException.class, () -> bench.point(0, 0));
    due.fails("promise 1: no trace", IllegalStateException.class, bench::cost);
    due.fails("promise 1: nothing saved", IllegalStateException.class, bench::restore);
    LineFollowerBench other = new LineFollowerBench();
    bench.set(0, 1);
    due.is("promise 1: objects share nothing", 64, () -> other.setting(0));
  }

  private static void settings() {
    for (int k = 0; k < RANGES.length; k++) {
      LineFollowerBench bench = new LineFollowerBench();
      int number = k;
      int least = RANGES[k][0];
      int most = RANGES[k][1];
      String name = " of setting " + k;
      due.is("promise 3: first value" + name, RANGES[k][2], () -> bench.setting(number));
      due.is("promise 2: least" + name, RANGES[k][2], () -> bench.set(number, least));
      due.is("promise 2: most" + name, least, () -> bench.set(number, most));
      due.is("promise 3: value" + name, most, () -> bench.setting(number));
      for (int wrong : new int[] {least - 1, most + 1, Integer.MIN_VALUE, Integer.MAX_VALUE}) {
        due.fails("promise 2: " + wrong + name, IllegalArgumentException.class, () -> bench.set(number, wrong));
      }
      due.is("promise 2: wrong values leave the value" + name, most, () -> bench.setting(number));
      due.is("promise 2: wrong values are no changes" + name, 2, () -> bench.count(6));
      for (int other = 0; other < RANGES.length; other++) {
        int index = other;
        if (other != k) {
          due.is("promise 2: other settings stay", RANGES[other][2], () -> bench.setting(index));
        }
      }
    }
    LineFollowerBench bench = new LineFollowerBench();
    for (int wrong : new int[] {-1, 15, Integer.MIN_VALUE, Integer.MAX_VALUE}) {
      due.fails("promise 2: setting " + wrong, IndexOutOfBoundsException.class, () -> bench.set(wrong, -9999));
      due.fails("promise 3: setting " + wrong, IndexOutOfBoundsException.class, () -> bench.setting(wrong));
    }
  }

  private static void weights() {
    LineFollowerBench bench = new LineFollowerBench();
    int[] first = {1, 1, 0, 0, 0};
    for (int k = 0; k < 5; k++) {
      int part = k;
      due.is("promise 8: first weight " + k, first[k], () -> bench.setWeight(part, 99));
      due.is("promise 8: set weight " + k, 99, () -> bench.setWeight(part, 0));
      due.is("promise 8: set weight " + k, 0, () -> bench.setWeight(part, k(part)));
      due.fails("promise 8: great weight", IllegalArgumentException.class, () -> bench.setWeight(part, 100));
      due.fails("promise 8: low weight", IllegalArgumentException.class, () -> bench.setWeight(part, -1));
      due.is("promise 8: weight stays", k(part), () -> bench.setWeight(part, k(part)));
    }
    due.is("promise 8: weights stand by themselves", k(0), () -> bench.setWeight(0, 1));
    due.fails("promise 8: part 5", IndexOutOfBoundsException.class, () -> bench.setWeight(5, 100));
    due.fails("promise 8: part -1", IndexOutOfBoundsException.class, () -> bench.setWeight(-1, 1));
  }

  private static int k(int part) {
    return 10 + part;
  }

  private static void grid() {
    LineFollowerBench bench = new LineFollowerBench();
    due.is("promise 9: triples", 9, () -> bench.setGrid(0, 0, 1, 1));
    due.is("promise 9: triples", 18, () -> bench.setGrid(1, 0, 1, 6));
    due.is("promise 9: triples", 12, () -> bench.setGrid(2, 0, 1, 2));
    due.is("promise 9: greatest value", 12, () -> bench.setGrid(0, 999, 200, 1));
    due.is("promise 9: greatest value", 72, () -> bench.setGrid(0, 4, 199, 6));
    due.is("promise 9: whole grid", 216, () -> bench.setGrid(2, 994, 1, 6));
    int changes = bench.count(6);
    int[][] wrong = {{-1, 1, 1}, {1000, 1, 1}, {0, 0, 1}, {0, 201, 1}, {0, 1, 0}, {0, 1, 7}, {5, 199, 6},
      {0, 200, 6}, {999, 1, 2}, {0, Integer.MAX_VALUE, 3}, {0, 1, Integer.MIN_VALUE}, {Integer.MIN_VALUE, 1, 1}};
    for (int[] row : wrong) {
      due.fails("promise 9: " + row[0] + " " + row[1] + " " + row[2], IllegalArgumentException.class,
          () -> bench.setGrid(1, row[0], row[1], row[2]));
      due.fails("promise 9: gain 3", IndexOutOfBoundsException.class,
          () -> bench.setGrid(3, row[0], row[1], row[2]));
    }
    due.fails("promise 9: gain -1", IndexOutOfBoundsException.class, () -> bench.setGrid(-1, 0, 1, 1));
    due.is("promise 9: wrong rows leave the grid", 216, () -> bench.count(3));
    due.is("promise 9: wrong rows are no changes", changes, () -> bench.count(6));
    due.is("promise 9: a row of one", 36, () -> bench.setGrid(1, 7, 3, 1));
    due.is("promise 9: a row of one", 6, () -> bench.setGrid(0, 8, 3, 1));
    due.is("promise 9: a row of one", 1, () -> bench.setGrid(2, 9, 3, 1));
    bench.search();
    for (int gain = 0; gain < 3; gain++) {
      int index = gain;
      due.is("promise 9: value of gain " + gain, new int[] {8, 7, 9}[gain], () -> bench.found(false, index));
    }
  }
}
