/** Boundary cases of promises 1, 2 and 3: a new object and its settings. */
public final class BoundarySettingsTest extends Boundary {
  /** The least value, the greatest one and the one at first. */
  private static final int[][] RANGES = {
    {0, 999, 64}, {0, 999, 0}, {0, 999, 0}, {1, 1000, 400}, {1, 1000, 1000}, {1, 100, 1}, {0, 5, 0},
    {0, 3, 0}, {0, 100000, 10000}, {0, 64, 16}, {0, 2, 0}, {0, 1000, 50}, {-2000, 2000, 500},
    {1, 200, 60}, {0, 1000, 20}};

  public static void main(String[] args) {
    new BoundarySettingsTest().runAll(1, 3);
  }

  @Override
  void tests() {
    nothingYet();
    firstValues();
    firstGrid();
    objects();
    values();
    settings();
    changes();
    leaving();
    reading();
  }

  private void nothingYet() {
    answers(1, "no segments", 0, FRESH, b -> b.count(0));
    answers(1, "no disturbances", 0, FRESH, b -> b.count(1));
    answers(1, "no points", 0, FRESH, b -> b.count(2));
    answers(1, "a track without length", 0, FRESH, b -> b.count(4));
    answers(1, "an empty buffer", 0, FRESH, b -> b.count(5));
    answers(1, "no changes", 0, FRESH, b -> b.count(6));
    answers(1, "no steps of a trace", 0, FRESH, b -> b.count(7));
    answers(1, "an empty description", 0, FRESH, b -> b.describe(-1));
    answers(1, "no error position", -1, FRESH, LineFollowerBench::errorPosition);
    refused(1, "no trace", STATE, FRESH, b -> b.trace(0, 0));
    refused(1, "no trace to hold", STATE, FRESH, LineFollowerBench::hold);
    refused(1, "nothing searched", STATE, FRESH, b -> b.found(false, 0));
    refused(1, "nothing climbed", STATE, FRESH, b -> b.found(true, 0));
    refused(1, "nothing to take back", STATE, FRESH, LineFollowerBench::undo);
    refused(1, "nothing saved", STATE, FRESH, LineFollowerBench::restore);
    refused(1, "no text to load", ARGUMENT, () -> {
      LineFollowerBench bench = new LineFollowerBench();
      loadWrong(bench);
      return bench;
    }, LineFollowerBench::load);
    test(1, "none is held after a first run", () -> {
      LineFollowerBench bench = ran("");
      fails(STATE, () -> bench.compare(0));
    });
  }

  private void firstValues() {
    for (int k = 0; k < RANGES.length; k++) {
      int setting = k;
      answers(1, "setting " + k + " at first", RANGES[k][2], FRESH, b -> b.setting(setting));
    }
    int[] weights = {1, 1, 0, 0, 0};
    for (int k = 0; k < weights.length; k++) {
      int part = k;
      answers(1, "weight " + k + " at first", weights[k], FRESH, b -> b.setWeight(part, 5));
    }
  }

  /** With a push, the greatest value of a gain makes the least cost; with two outputs, all costs are the same. */
  private void firstGrid() {
    answers(1, "27 triples at first", 27, FRESH, b -> b.count(3));
    for (int k = 0; k < 3; k++) {
      int gain = k;
      test(1, "the first value of gain " + gain + " is 0", () -> {
        LineFollowerBench bench = with("", 10, 1);
        bench.search();
        is(0, () -> bench.found(false, gain));
      });
      test(1, "the third value of gain " + gain + " is 64", () -> {
        LineFollowerBench bench = with("p0:100*1", 12, 20, 13, 3);
        for (int other = 0; other < 3; other++) {
          if (other != gain) {
            bench.setGrid(other, 0, 1, 1);
          }
        }
        bench.search();
        is(64, () -> bench.found(false, gain));
        is(2, () -> bench.found(false, 3));
      });
    }
  }

  private void objects() {
    test(1, "two objects share nothing", () -> {
      LineFollowerBench first = new LineFollowerBench();
      LineFollowerBench other = new LineFollowerBench();
      first.set(0, 1);
      first.run();
      type(first, "s1");
      is(64, () -> other.setting(0));
      is(0, () -> other.count(5));
      is(0, () -> other.count(6));
      is(0, () -> other.count(7));
    });
    test(1, "the 512th call is answered", () -> {
      LineFollowerBench bench = new LineFollowerBench();
      for (int call = 1; call < 512; call++) {
        bench.set(0, call);
      }
      is(511, () -> bench.setting(0));
    });
    test(1, "512 of the dearest calls are answered", () -> {
      LineFollowerBench bench = with("s9;r20:-50;p3:-100*9", 13, 200);
      for (int gain = 0; gain < 3; gain++) {
        bench.setGrid(gain, 4, 199, 6);
      }
      bench.search();
      long cost = bench.foundCost(false);
      for (int call = 13; call < 512; call++) {
        bench.search();
      }
      is(cost, () -> bench.foundCost(false));
    });
  }

  private void values() {
    for (int k = 0; k < RANGES.length; k++) {
      int setting = k;
      int least = RANGES[k][0];
      int most = RANGES[k][1];
      String name = "setting " + k + ", ";
      accepted(name + "its least value " + least, setting, least);
      accepted(name + "its greatest value " + most, setting, most);
      refused(2, name + "just below, " + (least - 1), ARGUMENT, RICH, b -> b.set(setting, least - 1));
      refused(2, name + "just above, " + (most + 1), ARGUMENT, RICH, b -> b.set(setting, most + 1));
      refused(2, name + "the least int", ARGUMENT, RICH, b -> b.set(setting, MIN));
      refused(2, name + "the greatest int", ARGUMENT, RICH, b -> b.set(setting, MAX));
    }
  }

  private void accepted(String name, int setting, int value) {
    test(2, name, () -> {
      LineFollowerBench bench = new LineFollowerBench();
      is(RANGES[setting][2], () -> bench.set(setting, value));
      is(value, () -> bench.setting(setting));
      is(value, () -> bench.set(setting, value));
      is(2, () -> bench.count(6));
    });
  }

  private void settings() {
    answers(2, "setting 0, the first one", 64, FRESH, b -> b.set(0, 7));
    answers(2, "setting 14, the last one", 20, FRESH, b -> b.set(14, 7));
    refused(2, "setting -1, just before the first", INDEX, RICH, b -> b.set(-1, 7));
    refused(2, "setting 15, just behind the last", INDEX, RICH, b -> b.set(15, 7));
    refused(2, "setting of the least int", INDEX, RICH, b -> b.set(MIN, 7));
    refused(2, "setting of the greatest int", INDEX, RICH, b -> b.set(MAX, 7));
    refused(2, "no such setting comes before a value too low", INDEX, RICH, b -> b.set(-1, MIN));
    refused(2, "no such setting comes before a value too great", INDEX, RICH, b -> b.set(15, MAX));
    refused(2, "a new object refuses too", ARGUMENT, FRESH, b -> b.set(0, 1000));
  }

  private void changes() {
    test(2, "the value that it has already is a change", () -> {
      LineFollowerBench bench = new LineFollowerBench();
      is(64, () -> bench.set(0, 64));
      is(1, () -> bench.count(6));
    });
    test(2, "a refused value is no change", () -> {
      LineFollowerBench bench = new LineFollowerBench();
      fails(ARGUMENT, () -> bench.set(0, 1000));
      fails(INDEX, () -> bench.set(15, 0));
      is(0, () -> bench.count(6));
    });
    test(2, "after a refused value, the previous one is that of before", () -> {
      LineFollowerBench bench = new LineFollowerBench();
      bench.set(13, 7);
      fails(ARGUMENT, () -> bench.set(13, 201));
      is(7, () -> bench.set(13, 8));
    });
    for (int k = 0; k < RANGES.length; k++) {
      int setting = k;
      test(2, "setting " + k + " leaves the other ones", () -> {
        LineFollowerBench bench = new LineFollowerBench();
        bench.set(setting, RANGES[setting][1]);
        for (int other = 0; other < RANGES.length; other++) {
          int index = other;
          is(other == setting ? RANGES[other][1] : RANGES[other][2], () -> bench.setting(index));
        }
      });
    }
  }

  private void leaving() {
    leavesAll(2, "a least value changes nothing else", RICH, b -> b.set(12, -2000), "settings", "past", "run");
    leavesAll(2, "a greatest value changes nothing else", RICH, b -> b.set(8, 100000), "settings", "past");
    leavesAll(2, "the value that it has already changes nothing else", RICH, b -> b.set(14, 10), "past");
  }

  private void reading() {
    answers(3, "setting 0, the first one", 64, FRESH, b -> b.setting(0));
    answers(3, "setting 14, the last one", 20, FRESH, b -> b.setting(14));
    refused(3, "setting -1, just before the first", INDEX, RICH, b -> b.setting(-1));
    refused(3, "setting 15, just behind the last", INDEX, RICH, b -> b.setting(15));
    refused(3, "setting of the least int", INDEX, RICH, b -> b.setting(MIN));
    refused(3, "setting of the greatest int", INDEX, RICH, b -> b.setting(MAX));
    refused(3, "a new object refuses too", INDEX, FRESH, b -> b.setting(15));
    leavesAll(3, "it leaves all as it is", RICH, b -> b.setting(12));
    test(3, "a value below 0", () -> {
      LineFollowerBench bench = with("", 12, -2000);
      is(-2000, () -> bench.setting(12));
    });
    test(3, "the value before a refused one", () -> {
      LineFollowerBench bench = with("", 5, 3);
      fails(ARGUMENT, () -> bench.set(5, 0));
      is(3, () -> bench.setting(5));
    });
  }
}
