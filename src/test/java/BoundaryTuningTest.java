import java.util.function.Supplier;
import java.util.function.ToLongFunction;

/** Boundary cases of promises 25 to 29: search, climb, what they found and apply. */
public final class BoundaryTuningTest extends Boundary {
  private static final int[] NONE = {0, 60, 1};
  private static final int[] BOTH = {0, 60, 2};

  public static void main(String[] args) {
    new BoundaryTuningTest().runAll(25, 29);
  }

  @Override
  void tests() {
    searchSizes();
    searchTies();
    searchValues();
    searchStates();
    climbLooks();
    climbValues();
    climbStates();
    leaving();
    foundNothing();
    foundParts();
    foundCounts();
    foundStays();
    foundCosts();
    applyNothing();
    applying();
  }

  private static LineFollowerBench gridded(LineFollowerBench bench, int[]... rows) {
    for (int gain = 0; gain < rows.length; gain++) {
      bench.setGrid(gain, rows[gain][0], rows[gain][1], rows[gain][2]);
    }
    return bench;
  }

  /** In step 1, error, integral and change are all 500: any gain of 60 makes the output 400, none makes it 0. */
  private static LineFollowerBench pushed(int[]... rows) {
    return gridded(with("p0:500*1", 13, 2, 12, 0), rows);
  }

  private static LineFollowerBench sameCosts(int[]... rows) {
    return gridded(with("", 10, 1), rows);
  }

  private void isFound(boolean climbed, LineFollowerBench bench, int... wanted) {
    for (int k = 0; k < wanted.length; k++) {
      int what = k;
      is(wanted[k], () -> bench.found(climbed, what));
    }
  }

  private void searchSizes() {
    int[] one = {5, 9, 1};
    int[] six = {5, 9, 6};
    answers(25, "a grid of one triple", 1, () -> sameCosts(one, one, one), LineFollowerBench::search);
    answers(25, "a grid of 216 triples", 216, () -> sameCosts(six, six, six), LineFollowerBench::search);
    answers(25, "the grid at first", 27, FRESH, LineFollowerBench::search);
    for (int k = 0; k < 3; k++) {
      int gain = k;
      answers(25, "a row of six for gain " + gain + " alone", 6,
          () -> sameCosts(gain == 0 ? six : one, gain == 1 ? six : one, gain == 2 ? six : one),
          LineFollowerBench::search);
    }
    test(25, "the only triple is found, whatever it costs", () -> {
      LineFollowerBench bench = gridded(new LineFollowerBench(), new int[] {999, 200, 1}, one, new int[] {0, 1, 1});
      bench.search();
      isFound(false, bench, 999, 5, 0, 0);
    });
  }

  private void searchTies() {
    test(25, "all costs the same: the least triple", () -> {
      LineFollowerBench bench = sameCosts(new int[] {7, 1, 6}, new int[] {8, 1, 6}, new int[] {9, 1, 6});
      bench.search();
      isFound(false, bench, 7, 8, 9, 0);
    });
    test(25, "all costs 0: the least triple", () -> {
      LineFollowerBench bench = new LineFollowerBench();
      bench.setWeight(0, 0);
      bench.setWeight(1, 0);
      bench.search();
      isFound(false, bench, 0, 0, 0, 0);
      is(0, () -> bench.foundCost(false));
    });
    test(25, "the same costs: the least proportional gain first", () -> {
      LineFollowerBench bench = pushed(BOTH, BOTH, NONE);
      bench.search();
      isFound(false, bench, 0, 60, 0, 1);
    });
    test(25, "the same costs: the least integral gain next", () -> {
      LineFollowerBench bench = pushed(NONE, BOTH, BOTH);
      bench.search();
      isFound(false, bench, 0, 0, 60, 1);
    });
    test(25, "the same costs: the least proportional gain before the derivative one", () -> {
      LineFollowerBench bench = pushed(BOTH, NONE, BOTH);
      bench.search();
      isFound(false, bench, 0, 0, 60, 1);
    });
    test(25, "the same costs: of seven triples the least", () -> {
      LineFollowerBench bench = pushed(BOTH, BOTH, BOTH);
      bench.search();
      isFound(false, bench, 0, 0, 60, 1);
      is(994, () -> bench.foundCost(false));
    });
    test(25, "the least of a row with the same costs behind it", () -> {
      LineFollowerBench bench = pushed(new int[] {0, 60, 6}, NONE, NONE);
      bench.search();
      isFound(false, bench, 60, 0, 0, 1);
    });
  }

  private void searchValues() {
    for (int k = 0; k < 3; k++) {
      int gain = k;
      test(25, "the last value of the row of gain " + gain + " is the best", () -> {
        int[] row = {0, 10, 6};
        LineFollowerBench bench = pushed(gain == 0 ? row : NONE, gain == 1 ? row : NONE, gain == 2 ? row : NONE);
        bench.search();
        is(50, () -> bench.found(false, gain));
        is(1000 - 6, () -> bench.foundCost(false));
      });
      test(25, "the first value of the row of gain " + gain + " is the best", () -> {
        LineFollowerBench bench = pushed(gain == 0 ? BOTH : NONE, gain == 1 ? BOTH : NONE, gain == 2 ? BOTH : NONE);
        bench.setWeight(0, 0);
        bench.setWeight(3, 1);
        bench.search();
        isFound(false, bench, 0, 0, 0, 1);
        is(0, () -> bench.foundCost(false));
      });
    }
    test(25, "the last one of 216 triples is the only best one", () -> {
      LineFollowerBench bench = lastOfAll();
      is(216, bench::search);
      isFound(false, bench, 40, 40, 40, 215);
      is(986, () -> bench.foundCost(false));
    });
    test(25, "after a climb that ended elsewhere", () -> {
      LineFollowerBench bench = lastOfAll();
      bench.climb();
      is(216, bench::search);
      isFound(false, bench, 40, 40, 40, 215);
    });
    test(25, "a smaller grid after a larger one", () -> {
      LineFollowerBench bench = lastOfAll();
      bench.search();
      gridded(bench, NONE, NONE, BOTH);
      is(2, bench::search);
      isFound(false, bench, 0, 0, 60, 1);
    });
    test(25, "the greatest gains are tried", () -> {
      int[] row = {994, 5, 2};
      LineFollowerBench bench = gridded(new LineFollowerBench(), row, row, row);
      is(8, bench::search);
      long cost = bench.foundCost(false);
      bench.apply(false);
      bench.run();
      is(cost, bench::cost);
    });
  }

  /** With an actuator of 937, all gains of 40, the last error is 486; with less, at most 875, it is at least 487. */
  private static LineFollowerBench lastOfAll() {
    int[] row = {0, 8, 6};
    LineFollowerBench bench = pushed(row, row, row);
    bench.set(3, 1000);
    return bench;
  }

  private void searchStates() {
    test(25, "the trace stays", () -> traceStays(LineFollowerBench::search));
    test(25, "no trace stays no trace", () -> {
      LineFollowerBench bench = new LineFollowerBench();
      bench.search();
      is(0, () -> bench.count(7));
      fails(STATE, bench::cost);
    });
    test(25, "the settings stay, and it is no change", () -> settingsStay(LineFollowerBench::search));
    test(25, "what climb found stays", () -> {
      LineFollowerBench bench = rich();
      long cost = bench.foundCost(true);
      bench.setGrid(0, 999, 1, 1);
      bench.search();
      is(cost, () -> bench.foundCost(true));
    });
  }

  private void leaving() {
    leavesAll(25, "the first search changes nothing else", FRESH, LineFollowerBench::search, "searched");
    leavesAll(25, "another search changes nothing else", RICH, LineFollowerBench::search, "searched");
    leavesAll(26, "the first climb changes nothing else", FRESH, LineFollowerBench::climb, "climbed");
    leavesAll(26, "another climb changes nothing else", RICH, LineFollowerBench::climb, "climbed");
    leavesAll(29, "applied, searched, it changes nothing else", BoundaryTuningTest::richWithGains, b -> b.apply(false),
        "settings", "reasons", "past", "run");
    leavesAll(29, "applied, climbed, it changes nothing else", BoundaryTuningTest::richWithGains, b -> b.apply(true),
        "settings", "reasons", "past", "run");
    leavesAll(29, "the same gains change nothing else", RICH, b -> b.apply(false), "past");
  }

  private static LineFollowerBench richWithGains() {
    LineFollowerBench bench = rich();
    bench.set(0, 500);
    bench.set(1, 600);
    bench.set(2, 700);
    return bench;
  }

  private void traceStays(ToLongFunction<LineFollowerBench> call) {
    LineFollowerBench twin = rich();
    LineFollowerBench bench = rich();
    call.applyAsLong(bench);
    for (int what = 0; what < 6; what++) {
      same(Due.row(twin, what), Due.row(bench, what));
    }
    is(twin.compare(0), () -> bench.compare(0));
  }

  private void settingsStay(ToLongFunction<LineFollowerBench> call) {
    LineFollowerBench bench = rich();
    LineFollowerBench twin = rich();
    call.applyAsLong(bench);
    for (int k = 0; k < 15; k++) {
      int setting = k;
      is(twin.setting(setting), () -> bench.setting(setting));
    }
    is(6, () -> bench.count(6));
    is(twin.run(), bench::run);
  }

  private void climbLooks() {
    int[] six = {5, 9, 6};
    looks("one triple", 3, sameCosts(NONE, NONE, NONE));
    looks("216 triples of the same cost", 3, sameCosts(six, six, six));
    looks("gain 0 alone changes the cost", 4, pushed(BOTH, NONE, NONE));
    looks("gain 1 alone changes the cost", 5, pushed(NONE, BOTH, NONE));
    looks("gain 2 alone, after two looks without a change", 6, pushed(NONE, NONE, BOTH));
    looks("gain 0 takes it all", 4, pushed(BOTH, BOTH, BOTH));
    looks("gain 1 takes it all", 5, pushed(NONE, BOTH, BOTH));
    looks("the first values are the best ones", 3, gridded(with("", 12, 0, 13, 9), six, six, six));
    looks("a value goes back, which does not change the cost", 5, backAgain());
  }

  /** Gain 0 is raised to 30, then gain 1 to 60, with which gain 0 makes no difference any more. */
  private static LineFollowerBench backAgain() {
    return pushed(new int[] {0, 30, 2}, BOTH, NONE);
  }

  private void looks(String name, int wanted, LineFollowerBench bench) {
    answers(26, name, wanted, () -> bench, LineFollowerBench::climb);
  }

  private void climbValues() {
    test(26, "it begins with the first values, not with the gains of now", () -> {
      LineFollowerBench bench = sameCosts(new int[] {7, 1, 6}, new int[] {8, 1, 6}, new int[] {9, 1, 6});
      bench.set(0, 12);
      bench.set(1, 13);
      bench.set(2, 14);
      bench.climb();
      isFound(true, bench, 7, 8, 9);
    });
    test(26, "of several values the least one", () -> {
      LineFollowerBench bench = pushed(new int[] {0, 60, 6}, BOTH, BOTH);
      bench.climb();
      isFound(true, bench, 60, 0, 0, 1);
      is(994, () -> bench.foundCost(true));
    });
    test(26, "a value that goes back is found", () -> {
      LineFollowerBench bench = backAgain();
      bench.climb();
      isFound(true, bench, 0, 60, 0, 2);
      is(994, () -> bench.foundCost(true));
    });
    for (int k = 0; k < 3; k++) {
      int gain = k;
      test(26, "the last value of the row of gain " + gain, () -> {
        int[] row = {0, 10, 6};
        LineFollowerBench bench = pushed(gain == 0 ? row : NONE, gain == 1 ? row : NONE, gain == 2 ? row : NONE);
        bench.climb();
        is(50, () -> bench.found(true, gain));
        is(994, () -> bench.foundCost(true));
      });
    }
    test(26, "the last one of 216 triples", () -> {
      LineFollowerBench bench = lastOfAll();
      is(6, bench::climb);
      isFound(true, bench, 40, 40, 40, 215);
      is(986, () -> bench.foundCost(true));
    });
    test(26, "a second climb begins with the first values again", () -> {
      LineFollowerBench bench = lastOfAll();
      bench.climb();
      is(6, bench::climb);
      isFound(true, bench, 40, 40, 40, 215);
    });
    test(26, "after a search that ended elsewhere", () -> {
      LineFollowerBench bench = lastOfAll();
      bench.search();
      is(6, bench::climb);
      isFound(true, bench, 40, 40, 40, 215);
    });
    test(26, "a smaller grid after a climb that ended elsewhere", () -> {
      LineFollowerBench bench = lastOfAll();
      bench.climb();
      gridded(bench, NONE, BOTH, NONE);
      is(5, bench::climb);
      isFound(true, bench, 0, 60, 0, 1);
    });
    test(26, "it ends where no gain alone makes the cost less", () -> {
      LineFollowerBench bench = localEnd();
      is(3, bench::climb);
      isFound(true, bench, 0, 0, 0, 2);
      is(1000, () -> bench.foundCost(true));
      bench.search();
      isFound(false, bench, 30, 30, 0, 3);
      is(470, () -> bench.foundCost(false));
    });
  }

  /**
   * The cost is the change of the actuator and the settling step, or 1000: an error of 493 takes an actuator of 448,
   * so that one gain alone makes it greater, 1234, and both together make it less, 470.
   */
  private static LineFollowerBench localEnd() {
    int[] row = {0, 30, 2};
    LineFollowerBench bench = pushed(row, row, NONE);
    bench.set(3, 1000);
    bench.set(14, 493);
    for (int part = 0; part < 5; part++) {
      bench.setWeight(part, part < 3 ? 0 : 1);
    }
    return bench;
  }

  private void climbStates() {
    test(26, "the trace stays", () -> traceStays(LineFollowerBench::climb));
    test(26, "no trace stays no trace", () -> {
      LineFollowerBench bench = new LineFollowerBench();
      bench.climb();
      is(0, () -> bench.count(7));
      fails(STATE, bench::cost);
    });
    test(26, "the settings stay, and it is no change", () -> settingsStay(LineFollowerBench::climb));
    test(26, "what search found stays", () -> {
      LineFollowerBench bench = rich();
      long cost = bench.foundCost(false);
      bench.setGrid(0, 999, 1, 1);
      bench.climb();
      is(cost, () -> bench.foundCost(false));
    });
  }

  private static LineFollowerBench onlySearched() {
    LineFollowerBench bench = new LineFollowerBench();
    bench.search();
    return bench;
  }

  private static LineFollowerBench onlyClimbed() {
    LineFollowerBench bench = new LineFollowerBench();
    bench.climb();
    return bench;
  }

  private void foundNothing() {
    for (boolean climbed : new boolean[] {false, true}) {
      String name = climbed ? "climb" : "search";
      Supplier<LineFollowerBench> other = climbed ? BoundaryTuningTest::onlySearched : BoundaryTuningTest::onlyClimbed;
      for (int k = 0; k < 4; k++) {
        int what = k;
        refused(27, name + " was not called, what " + what, STATE, FRESH, b -> b.found(climbed, what));
      }
      refused(27, name + " was not called comes before what -1", STATE, FRESH, b -> b.found(climbed, -1));
      refused(27, name + " was not called comes before what 4", STATE, FRESH, b -> b.found(climbed, 4));
      refused(27, name + " was not called, only the other one", STATE, other, b -> b.found(climbed, 0));
      refused(28, name + " was not called", STATE, FRESH, b -> b.foundCost(climbed));
      refused(28, name + " was not called, only the other one", STATE, other, b -> b.foundCost(climbed));
    }
  }

  private void foundParts() {
    for (boolean climbed : new boolean[] {false, true}) {
      String name = climbed ? ", climbed" : ", searched";
      for (int what : new int[] {-1, 4, MIN, MAX}) {
        refused(27, "what " + what + name, ARGUMENT, RICH, b -> b.found(climbed, what));
      }
      for (int k = 0; k < 4; k++) {
        int what = k;
        leavesAll(27, "what " + what + name + ", leaves all as it is", RICH, b -> b.found(climbed, what));
      }
      leavesAll(28, "it leaves all as it is" + name, RICH, b -> b.foundCost(climbed));
    }
  }

  private static void find(boolean climbed, LineFollowerBench bench) {
    if (climbed) {
      bench.climb();
    } else {
      bench.search();
    }
  }

  private void counted(String name, int wanted, boolean climbed, LineFollowerBench bench) {
    test(27, name + (climbed ? ", climbed" : ", searched"), () -> {
      find(climbed, bench);
      is(wanted, () -> bench.found(climbed, 3));
    });
  }

  private void foundCounts() {
    for (boolean climbed : new boolean[] {false, true}) {
      counted("one triple, none greater", 0, climbed, sameCosts(NONE, NONE, NONE));
      counted("all the same, none greater", 0, climbed, sameCosts(BOTH, BOTH, BOTH));
      counted("one of two is greater", 1, climbed, pushed(BOTH, NONE, NONE));
      counted("one of eight is greater", 1, climbed, pushed(BOTH, BOTH, BOTH));
      counted("all but the found one are greater", 5, climbed, pushed(new int[] {0, 10, 6}, NONE, NONE));
      test(27, "triples of a grid before do not count" + (climbed ? ", climbed" : ", searched"), () -> {
        LineFollowerBench bench = pushed(new int[] {0, 10, 6}, NONE, NONE);
        find(climbed, bench);
        bench.setGrid(0, 60, 1, 1);
        find(climbed, bench);
        isFound(climbed, bench, 60, 0, 0, 0);
      });
      test(27, "0 to 2 are the gains in their order" + (climbed ? ", climbed" : ", searched"), () -> {
        LineFollowerBench bench = sameCosts(new int[] {0, 1, 1}, new int[] {999, 1, 1}, new int[] {500, 1, 1});
        find(climbed, bench);
        isFound(climbed, bench, 0, 999, 500, 0);
      });
    }
    counted("triples with lesser costs do not count", 2, true, localEnd());
  }

  private void foundStays() {
    for (boolean climbed : new boolean[] {false, true}) {
      String name = climbed ? ", climbed" : ", searched";
      test(27, "it stays as it was then" + name, () -> {
        LineFollowerBench bench = pushed(BOTH, NONE, NONE);
        find(climbed, bench);
        bench.setGrid(0, 7, 1, 6);
        bench.setWeight(0, 0);
        bench.set(13, 1);
        bench.set(0, 999);
        bench.run();
        bench.save();
        bench.restore();
        bench.undo();
        isFound(climbed, bench, 60, 0, 0, 1);
      });
      test(27, "the last one counts" + name, () -> {
        LineFollowerBench bench = pushed(BOTH, BOTH, BOTH);
        find(climbed, bench);
        bench.setGrid(0, 7, 1, 1);
        bench.setGrid(1, 8, 1, 1);
        bench.setGrid(2, 9, 1, 1);
        find(climbed, bench);
        isFound(climbed, bench, 7, 8, 9, 0);
      });
      test(28, "it stays as it was then" + name, () -> {
        LineFollowerBench bench = pushed(BOTH, NONE, NONE);
        find(climbed, bench);
        bench.setWeight(0, 0);
        bench.run();
        is(994, () -> bench.foundCost(climbed));
      });
      test(28, "the last one counts, although it is greater" + name, () -> {
        LineFollowerBench bench = pushed(BOTH, NONE, NONE);
        find(climbed, bench);
        bench.setGrid(0, 0, 1, 1);
        find(climbed, bench);
        is(1000, () -> bench.foundCost(climbed));
      });
    }
  }

  private void foundCosts() {
    for (boolean climbed : new boolean[] {false, true}) {
      String name = climbed ? ", climbed" : ", searched";
      test(28, "the cost 0" + name, () -> {
        LineFollowerBench bench = sameCosts(NONE, NONE, NONE);
        bench.set(12, 0);
        find(climbed, bench);
        is(0, () -> bench.foundCost(climbed));
      });
      test(28, "a great cost" + name, () -> {
        LineFollowerBench bench = gridded(with("p0:500*99;p0:500*99;p0:500*99;p0:500*99", 13, 200, 12, 2000),
            NONE, NONE, NONE);
        bench.setWeight(0, 99);
        bench.setWeight(4, 99);
        find(climbed, bench);
        is(99L * (1990000 + 1000), () -> bench.foundCost(climbed));
      });
    }
  }

  private void applyNothing() {
    for (boolean climbed : new boolean[] {false, true}) {
      String name = climbed ? "climb" : "search";
      Supplier<LineFollowerBench> other = climbed ? BoundaryTuningTest::onlySearched : BoundaryTuningTest::onlyClimbed;
      refused(29, name + " was not called", STATE, FRESH, b -> b.apply(climbed));
      refused(29, name + " was not called, only the other one", STATE, other, b -> b.apply(climbed));
      test(29, name + " was not called, which is no change", () -> {
        LineFollowerBench bench = with("", 0, 7);
        fails(STATE, () -> bench.apply(climbed));
        is(1, () -> bench.count(6));
        is(7, () -> bench.setting(0));
      });
    }
  }

  private void applying() {
    for (boolean climbed : new boolean[] {false, true}) {
      String name = climbed ? ", climbed" : ", searched";
      for (int k = 0; k < 4; k++) {
        int changes = k;
        test(29, changes + " gains change" + name, () -> {
          LineFollowerBench bench = sameCosts(new int[] {999, 1, 1}, new int[] {0, 1, 1}, new int[] {998, 1, 1});
          find(climbed, bench);
          bench.set(0, changes > 0 ? 998 : 999);
          bench.set(1, changes > 2 ? 1 : 0);
          bench.set(2, changes > 1 ? 999 : 998);
          is(changes, () -> bench.apply(climbed));
          is(999, () -> bench.setting(0));
          is(0, () -> bench.setting(1));
          is(998, () -> bench.setting(2));
        });
      }
      test(29, "the same gains are a change" + name, () -> {
        LineFollowerBench bench = new LineFollowerBench();
        find(climbed, bench);
        bench.apply(climbed);
        int changes = bench.count(6);
        is(0, () -> bench.apply(climbed));
        is(changes + 1, () -> bench.count(6));
        is(changes, bench::undo);
      });
      test(29, "one change, also if three gains change" + name, () -> {
        LineFollowerBench bench = sameCosts(new int[] {1, 1, 1}, new int[] {2, 1, 1}, new int[] {3, 1, 1});
        bench.save();
        find(climbed, bench);
        int changes = bench.count(6);
        is(3, () -> bench.apply(climbed));
        is(changes + 1, () -> bench.count(6));
        is(changes, bench::undo);
        is(64, () -> bench.setting(0));
        is(0, () -> bench.setting(1));
        is(0, () -> bench.setting(2));
      });
    }
    test(29, "gains found with a grid that is gone", () -> {
      LineFollowerBench bench = sameCosts(new int[] {7, 1, 1}, NONE, NONE);
      bench.search();
      bench.setGrid(0, 0, 1, 1);
      bench.apply(false);
      is(7, () -> bench.setting(0));
    });
    test(29, "what was found is there after an undo", () -> {
      LineFollowerBench bench = sameCosts(new int[] {7, 1, 1}, NONE, NONE);
      bench.search();
      bench.apply(false);
      bench.undo();
      is(1, () -> bench.apply(false));
      is(7, () -> bench.setting(0));
    });
  }
}
