import java.util.NoSuchElementException;

/** Promises 25 to 30: search, climb, what they found, apply and lowest. */
public final class TuningTest {
  private static final Due due = new Due("TuningTest");
  private static int ties = 0;
  private static int gaps = 0;

  public static void main(String[] args) {
    beforeTuning();
    searches();
    firstGrid();
    sameCosts();
    climbs();
    found();
    apply();
    lowest();
    lowestAgainstRuns();
    due.end();
  }

  private static LineFollowerBench bench(int[][] grid, int... settings) {
    LineFollowerBench bench = Due.with("s3;b4:10;r5:-20;p2:-100*3;p4:7*1", settings);
    for (int gain = 0; gain < grid.length; gain++) {
      bench.setGrid(gain, grid[gain][0], grid[gain][1], grid[gain][2]);
    }
    return bench;
  }

  private static void beforeTuning() {
    LineFollowerBench bench = new LineFollowerBench();
    for (boolean climbed : new boolean[] {false, true}) {
      due.fails("promise 27: not called", IllegalStateException.class, () -> bench.found(climbed, 4));
      due.fails("promise 28: not called", IllegalStateException.class, () -> bench.foundCost(climbed));
      due.fails("promise 29: not called", IllegalStateException.class, () -> bench.apply(climbed));
    }
    bench.search();
    due.fails("promise 27: climb was not called", IllegalStateException.class, () -> bench.found(true, 0));
    due.fails("promise 28: climb was not called", IllegalStateException.class, () -> bench.foundCost(true));
    due.fails("promise 29: climb was not called", IllegalStateException.class, () -> bench.apply(true));
    LineFollowerBench other = new LineFollowerBench();
    other.climb();
    due.fails("promise 27: search was not called", IllegalStateException.class, () -> other.found(false, 0));
    due.fails("promise 28: search was not called", IllegalStateException.class, () -> other.foundCost(false));
    due.fails("promise 29: search was not called", IllegalStateException.class, () -> other.apply(false));
    due.is("promise 29: no change", 0, () -> other.count(6));
  }

  /** Searches are compared with the costs of runs, one for each triple. */
  private static void searches() {
    int[][][] grids = {{{0, 32, 3}, {0, 32, 3}, {0, 32, 3}}, {{16, 48, 3}, {0, 4, 2}, {0, 100, 3}},
      {{5, 100, 6}, {0, 1, 6}, {0, 190, 6}}, {{999, 1, 1}, {3, 1, 1}, {500, 9, 1}}, {{0, 1, 6}, {0, 1, 6}, {0, 1, 1}},
      {{0, 1, 1}, {0, 1, 6}, {0, 1, 6}}, {{0, 1, 4}, {0, 1, 1}, {0, 1, 5}}};
    int[][] more = {{}, {12, 0}, {12, 7}, {10, 1}, {10, 2}, {7, 1, 8, 100}, {7, 2, 3, 40}, {7, 3, 4, 9, 6, 2, 5, 10}};
    for (int[][] grid : grids) {
      for (int[] settings : more) {
        for (int steps : new int[] {4, 30}) {
          LineFollowerBench bench = bench(grid, settings);
          bench.set(13, steps);
          bench.setWeight(3, steps);
          bench.setWeight(4, 2);
          searchAgainstRuns(bench, grid);
        }
      }
    }
    due.compare("promise 25: the test has ties", "true", "" + (ties > 5));
  }

  /** The grid of a new object: all of its values are the best ones of some bench. */
  private static void firstGrid() {
    int[][] grid = {{0, 32, 3}, {0, 32, 3}, {0, 32, 3}};
    int[][] more = {{}, {12, 40}, {12, 90, 3, 1000}, {12, -300, 7, 3}, {13, 200}, {13, 20, 6, 1, 7, 1, 8, 30},
      {12, -30, 7, 1, 8, 30}, {12, -30, 7, 3, 3, 30, 9, 64}, {12, 300, 7, 1, 8, 90, 4, 90}, {12, -113, 13, 62, 7, 3}};
    boolean[][] isFound = new boolean[3][3];
    for (int[] settings : more) {
      LineFollowerBench bench = Due.with("b40:-7;r30:9", settings);
      searchAgainstRuns(bench, grid);
      for (int gain = 0; gain < 3; gain++) {
        isFound[gain][bench.found(false, gain) / 32] = true;
      }
    }
    for (int gain = 0; gain < 3; gain++) {
      for (int k = 0; k < 3; k++) {
        due.compare("promise 1: the test finds gain " + gain + ", value " + k, "true", "" + isFound[gain][k]);
      }
    }
  }

  private static void searchAgainstRuns(LineFollowerBench bench, int[][] grid) {
    bench.run();
    String before = Due.row(bench, 0);
    due.is("promise 25: triples", bench.count(3), bench::search);
    due.compare("promise 25: the trace stays", before, Due.row(bench, 0));
    long least = Long.MAX_VALUE;
    int others = 0;
    int equal = 0;
    int[] best = new int[3];
    for (int p = 0; p < grid[0][2]; p++) {
      for (int i = 0; i < grid[1][2]; i++) {
        for (int d = 0; d < grid[2][2]; d++) {
          int[] gains = {grid[0][0] + grid[0][1] * p, grid[1][0] + grid[1][1] * i, grid[2][0] + grid[2][1] * d};
          for (int gain = 0; gain < 3; gain++) {
            bench.set(gain, gains[gain]);
          }
          bench.run();
          others++;
          equal = bench.cost() == least ? equal + 1 : equal;
          if (bench.cost() < least) {
            least = bench.cost();
            best = gains;
            equal = 1;
          }
        }
      }
    }
    ties += equal > 1 && equal < others ? 1 : 0;
    for (int gain = 0; gain < 3; gain++) {
      int index = gain;
      due.is("promise 27: gain " + gain, best[gain], () -> bench.found(false, index));
    }
    due.is("promise 27: triples with greater costs", others - equal, () -> bench.found(false, 3));
    due.is("promise 28: the least cost", least, () -> bench.foundCost(false));
  }

  private static void sameCosts() {
    LineFollowerBench bench = bench(new int[][] {{5, 3, 4}, {6, 2, 3}, {7, 9, 6}}, 10, 1);
    due.is("promise 25: all costs the same", 72, bench::search);
    due.is("promise 26: all costs the same", 3, bench::climb);
    for (boolean climbed : new boolean[] {false, true}) {
      due.is("promise 27: the least proportional gain", 5, () -> bench.found(climbed, 0));
      due.is("promise 27: the least integral gain", 6, () -> bench.found(climbed, 1));
      due.is("promise 27: the least derivative gain", 7, () -> bench.found(climbed, 2));
      due.is("promise 27: no greater cost", 0, () -> bench.found(climbed, 3));
    }
  }

  /** Rows: settings, weight of part 3, grid, then looks, cost, gains and triples with greater costs. */
  private static void climbs() {
    int[][][] cases = {
      // in these, a value changes while the cost stays, and this counts as no change
      {{13, 9, 12, -127, 3, 87, 7, 2}, {12}, {12, 3, 2}, {36, 24, 2}, {27, 27, 1}, {5, 2125, 12, 60, 27, 2}},
      {{13, 20, 12, -37, 3, 70, 7, 3}, {0}, {27, 3, 2}, {32, 23, 2}, {35, 11, 1}, {5, 938, 27, 55, 35, 2}},
      {{13, 22, 12, -37, 3, 51, 7, 2}, {12}, {13, 2, 1}, {15, 9, 3}, {28, 5, 3}, {8, 2778, 13, 33, 33, 7}},
      {{13, 22, 12, -46, 3, 67, 7, 2}, {4}, {29, 27, 3}, {20, 13, 3}, {30, 6, 3}, {7, 1888, 56, 46, 30, 24}}};
    for (int[][] row : cases) {
      LineFollowerBench bench = Due.with("", row[0]);
      bench.setWeight(3, row[1][0]);
      for (int gain = 0; gain < 3; gain++) {
        bench.setGrid(gain, row[2 + gain][0], row[2 + gain][1], row[2 + gain][2]);
      }
      bench.run();
      String before = Due.row(bench, 0);
      due.is("promise 26: gains that were looked at", row[5][0], bench::climb);
      due.compare("promise 26: the trace stays", before, Due.row(bench, 0));
      due.is("promise 28: cost", row[5][1], () -> bench.foundCost(true));
      for (int what = 0; what < 4; what++) {
        int index = what;
        due.is("promise 27: climbed, " + what, row[5][2 + what], () -> bench.found(true, index));
      }
    }
    climbsAgainstRuns();
  }

  private static void climbsAgainstRuns() {
    int[][] grid = {{5, 30, 6}, {0, 1, 6}, {0, 90, 6}};
    int below = 0;
    for (int start = -300; start <= 300; start += 40) {
      LineFollowerBench bench = bench(grid, 12, start, 13, 40, 7, 1);
      int looks = bench.climb();
      bench.search();
      below += bench.foundCost(true) > bench.foundCost(false) ? 1 : 0;
      int[] places = {0, 0, 0};
      int quiet = 0;
      int looked = 0;
      long before = costAt(bench, grid, places);
      while (quiet < 3) {
        int gain = looked % 3;
        int best = 0;
        long least = Long.MAX_VALUE;
        for (int k = 0; k < grid[gain][2]; k++) {
          places[gain] = k;
          long cost = costAt(bench, grid, places);
          best = cost < least ? k : best;
          least = Math.min(least, cost);
        }
        places[gain] = best;
        quiet = least == before ? quiet + 1 : 0;
        before = least;
        looked++;
      }
      due.compare("promise 26: looks from " + start, "" + looked, "" + looks);
      long cost = before;
      due.is("promise 28: climbed cost from " + start, cost, () -> bench.foundCost(true));
      for (int gain = 0; gain < 3; gain++) {
        int index = gain;
        due.is("promise 27: climbed gain from " + start, grid[gain][0] + grid[gain][1] * places[gain],
            () -> bench.found(true, index));
      }
    }
    due.compare("promise 26: some climbs end before the least cost", "true", "" + (below > 0));
  }

  private static long costAt(LineFollowerBench bench, int[][] grid, int[] places) {
    for (int gain = 0; gain < 3; gain++) {
      bench.set(gain, grid[gain][0] + grid[gain][1] * places[gain]);
    }
    bench.run();
    return bench.cost();
  }

  private static void found() {
    LineFollowerBench bench = bench(new int[][] {{16, 48, 3}, {0, 4, 2}, {0, 100, 3}});
    bench.search();
    bench.climb();
    for (boolean climbed : new boolean[] {false, true}) {
      due.fails("promise 27: what 4", IllegalArgumentException.class, () -> bench.found(climbed, 4));
      due.fails("promise 27: what -1", IllegalArgumentException.class, () -> bench.found(climbed, -1));
    }
    long cost = bench.foundCost(false);
    int greater = bench.found(false, 3);
    bench.setGrid(0, 1, 1, 1);
    bench.setWeight(0, 50);
    bench.set(13, 3);
    bench.run();
    bench.save();
    bench.restore();
    bench.undo();
    due.is("promise 28: as it was then", cost, () -> bench.foundCost(false));
    due.is("promise 27: as it was then", greater, () -> bench.found(false, 3));
    bench.climb();
    due.is("promise 27: climb leaves what search found", 112, () -> bench.found(false, 0));
    due.is("promise 27: climbed along the grid of now", 1, () -> bench.found(true, 0));
    bench.search();
    due.is("promise 27: the last search counts", 1, () -> bench.found(false, 0));
  }

  private static void apply() {
    LineFollowerBench bench = bench(new int[][] {{16, 48, 3}, {0, 4, 2}, {0, 100, 3}});
    bench.search();
    int changes = bench.count(6);
    due.is("promise 29: two of them", 2, () -> bench.apply(false));
    due.is("promise 29: proportional", 112, () -> bench.setting(0));
    due.is("promise 29: integral", 0, () -> bench.setting(1));
    due.is("promise 29: derivative", 200, () -> bench.setting(2));
    due.is("promise 29: again", 0, () -> bench.apply(false));
    due.is("promise 29: two changes", changes + 2, () -> bench.count(6));
    bench.undo();
    bench.undo();
    due.is("promise 29: undone", 64, () -> bench.setting(0));
    bench.setGrid(0, 1, 1, 1);
    bench.setGrid(1, 2, 1, 1);
    bench.setGrid(2, 3, 1, 1);
    bench.climb();
    due.is("promise 29: climbed", 3, () -> bench.apply(true));
    due.is("promise 29: climbed", 3, () -> bench.setting(2));
    due.is("promise 29: searched", 3, () -> bench.apply(false));
  }

  private static void lowest() {
    LineFollowerBench bench = Due.with("", 13, 3, 0, 100, 1, 5, 2, 9);
    bench.run();
    long cost = bench.cost();
    for (int setting = 0; setting < 4; setting++) {
      int number = setting;
      due.is("promise 30: as low as it goes", setting == 3 ? 1 : 0, () -> bench.lowest(number, Long.MAX_VALUE));
      due.fails("promise 30: the cost is greater", NoSuchElementException.class,
          () -> bench.lowest(number, cost - 1));
      due.fails("promise 30: the cost is greater", NoSuchElementException.class,
          () -> bench.lowest(number, Long.MIN_VALUE));
    }
    for (int wrong : new int[] {-1, 4, 14, 15, Integer.MIN_VALUE, Integer.MAX_VALUE}) {
      due.fails("promise 30: setting " + wrong, IndexOutOfBoundsException.class, () -> bench.lowest(wrong, 0));
      due.fails("promise 30: setting " + wrong, IndexOutOfBoundsException.class,
          () -> bench.lowest(wrong, Long.MAX_VALUE));
    }
    due.is("promise 30: the setting stays", 100, () -> bench.setting(0));
    due.is("promise 30: the trace stays", cost, bench::cost);
    due.is("promise 30: no change", 4, () -> bench.count(6));
    // errors 500 and 494: an actuator from 384 to 447 makes this heading
    LineFollowerBench flat = Due.with("", 13, 1);
    due.is("promise 30: the cost may be the same", 50, () -> flat.lowest(0, 994));
    due.is("promise 30: but not greater", 384, () -> flat.lowest(3, 994));
    due.fails("promise 30: 993 is too low", NoSuchElementException.class, () -> flat.lowest(0, 993));
    flat.set(0, 0);
    due.is("promise 30: at its lowest", 0, () -> flat.lowest(0, 1000));
    flat.set(3, 1);
    due.is("promise 30: at its lowest", 1, () -> flat.lowest(3, 1000));
  }

  private static void lowestAgainstRuns() {
    for (int setting = 0; setting < 4; setting++) {
      for (int value : new int[] {30, 64, 130}) {
        for (int percent : new int[] {99, 100, 101, 105, 130}) {
          LineFollowerBench bench = bench(new int[0][], 13, 45, 4, 60, 6, 2, 1, 1, 2, 200, 12, 60, setting, value);
          bench.run();
          lowestAgainstRuns(bench, setting, bench.cost() * percent / 100);
        }
      }
    }
    due.compare("promise 30: the test has gaps", "true", "" + (gaps > 2));
  }

  private static void lowestAgainstRuns(LineFollowerBench bench, int setting, long allowed) {
    int present = bench.setting(setting);
    int least = setting == 3 ? 1 : 0;
    boolean[] isAllowed = new boolean[present + 1];
    for (int value = present; value >= least; value--) {
      bench.set(setting, value);
      bench.run();
      isAllowed[value] = bench.cost() <= allowed;
    }
    bench.set(setting, present);
    int lowest = present + 1;
    while (lowest > least && isAllowed[lowest - 1]) {
      lowest--;
    }
    for (int value = least; value < lowest - 1; value++) {
      if (lowest <= present && isAllowed[value]) {
        gaps++;
        break;
      }
    }
    if (lowest > present) {
      due.fails("promise 30: setting " + setting + ", " + allowed, NoSuchElementException.class,
          () -> bench.lowest(setting, allowed));
    } else {
      int wanted = lowest;
      due.is("promise 30: setting " + setting + ", " + allowed, wanted, () -> bench.lowest(setting, allowed));
    }
  }
}
