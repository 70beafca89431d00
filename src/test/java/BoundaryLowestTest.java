import java.util.function.Supplier;

/** Boundary cases of promise 30: how far a setting may be lowered. */
public final class BoundaryLowestTest extends Boundary {
  public static void main(String[] args) {
    new BoundaryLowestTest().runAll(30, 30);
  }

  @Override
  void tests() {
    settings();
    costs();
    ranges();
    gaps();
    states();
  }

  private void settings() {
    for (int setting : new int[] {-1, 4, 14, 15, MIN, MAX}) {
      refused(30, "setting " + setting, INDEX, RICH, b -> b.lowest(setting, Long.MAX_VALUE));
      refused(30, "setting " + setting + " comes before a cost that is too low", INDEX, RICH,
          b -> b.lowest(setting, -1));
    }
    for (int k = 0; k < 4; k++) {
      int setting = k;
      answers(30, "setting " + setting + ", any cost is allowed", setting == 3 ? 1 : 0, RICH,
          b -> b.lowest(setting, Long.MAX_VALUE));
      answers(30, "setting " + setting + " of a new object", setting == 3 ? 1 : 0, FRESH,
          b -> b.lowest(setting, Long.MAX_VALUE));
    }
  }

  /** One step from 500: a cost of 994 with an actuator from 384 to 447, and of 1000 below 64. */
  private static LineFollowerBench oneStep() {
    return with("", 13, 1);
  }

  private void costs() {
    Supplier<LineFollowerBench> one = BoundaryLowestTest::oneStep;
    answers(30, "just the cost that is allowed", 50, one, b -> b.lowest(0, 994));
    answers(30, "just the cost that is allowed, of the limit", 384, one, b -> b.lowest(3, 994));
    answers(30, "one more than the cost", 41, one, b -> b.lowest(0, 995));
    for (int k = 0; k < 4; k++) {
      int setting = k;
      refused(30, "setting " + setting + ", one less than the cost", ELEMENT, one, b -> b.lowest(setting, 993));
      refused(30, "setting " + setting + ", a cost of -1", ELEMENT, RICH, b -> b.lowest(setting, -1));
      refused(30, "setting " + setting + ", the least cost", ELEMENT, RICH, b -> b.lowest(setting, Long.MIN_VALUE));
      // as an int, this would be 994
      refused(30, "setting " + setting + ", a cost that would wrap around", ELEMENT, one,
          b -> b.lowest(setting, -(1L << 32) + 994));
      answers(30, "setting " + setting + ", a great cost that would wrap around", setting == 3 ? 1 : 0, one,
          b -> b.lowest(setting, 1L << 32));
    }
    test(30, "a cost of 0 that is allowed", () -> {
      LineFollowerBench bench = with("", 12, 0);
      is(0, () -> bench.lowest(0, 0));
      is(1, () -> bench.lowest(3, 0));
    });
    test(30, "the weights of now", () -> {
      LineFollowerBench bench = oneStep();
      bench.setWeight(0, 2);
      fails(ELEMENT, () -> bench.lowest(0, 994));
      is(50, () -> bench.lowest(0, 1988));
    });
    test(30, "the band of now", () -> {
      LineFollowerBench bench = oneStep();
      bench.setWeight(0, 0);
      bench.setWeight(4, 1);
      bench.set(14, 494);
      is(50, () -> bench.lowest(0, 1));
      bench.set(14, 493);
      fails(ELEMENT, () -> bench.lowest(0, 1));
    });
  }

  private void ranges() {
    for (int k = 0; k < 3; k++) {
      int gain = k;
      answers(30, "gain " + gain + " is 0 already", 0, () -> with("", 13, 1, 0, 0), b -> b.lowest(gain, 1000));
      refused(30, "gain " + gain + " is 0 already, but the cost is greater", ELEMENT, () -> with("", 13, 1, 0, 0),
          b -> b.lowest(gain, 999));
      answers(30, "gain " + gain + " from the greatest one to 0", 0, () -> with("", gain, 999),
          b -> b.lowest(gain, Long.MAX_VALUE));
    }
    answers(30, "the limit is 1 already", 1, () -> with("", 13, 1, 3, 1), b -> b.lowest(3, 1000));
    refused(30, "the limit is 1 already, but the cost is greater", ELEMENT, () -> with("", 13, 1, 3, 1),
        b -> b.lowest(3, 999));
    answers(30, "the limit from the greatest one to 1", 1, () -> with("", 3, 1000),
        b -> b.lowest(3, Long.MAX_VALUE));
    answers(30, "it is not lowered at all", 50, () -> with("", 13, 1, 0, 50), b -> b.lowest(0, 994));
    refused(30, "a greater value would do, but not the present one", ELEMENT, () -> with("", 13, 1, 0, 49),
        b -> b.lowest(0, 994));
    answers(30, "lowered by one", 50, () -> with("", 13, 1, 0, 51), b -> b.lowest(0, 994));
    answers(30, "a gain that does not matter", 0, () -> with("", 13, 1, 2, 999), b -> b.lowest(2, 994));
  }

  /**
   * In step 1, error, integral and change are all 500. The cost is the actuator, and 2 if it is at least 448, otherwise
   * 1000: with a gain of 58 it is 455, of 57 it is 1445, and of 0 it is 1000.
   */
  private static LineFollowerBench gap(int... settings) {
    LineFollowerBench bench = with("p0:500*1", 13, 2, 12, 0, 14, 493, 3, 1000, 0, 0);
    for (int part = 0; part < 5; part++) {
      bench.setWeight(part, part < 3 ? 0 : 1);
    }
    for (int k = 0; k < settings.length; k += 2) {
      bench.set(settings[k], settings[k + 1]);
    }
    return bench;
  }

  private void gaps() {
    for (int k = 0; k < 3; k++) {
      int gain = k;
      answers(30, "gain " + gain + ", a value below a gap is not reached", 58, () -> gap(gain, 64),
          b -> b.lowest(gain, 1000));
      answers(30, "gain " + gain + ", just not over the gap", 58, () -> gap(gain, 64), b -> b.lowest(gain, 1444));
      answers(30, "gain " + gain + ", just over the gap", 0, () -> gap(gain, 64), b -> b.lowest(gain, 1445));
      answers(30, "gain " + gain + ", just before the gap", 58, () -> gap(gain, 58), b -> b.lowest(gain, 455));
      refused(30, "gain " + gain + ", in the gap", ELEMENT, () -> gap(gain, 57), b -> b.lowest(gain, 1444));
      answers(30, "gain " + gain + ", below the gap", 0, () -> gap(gain, 1), b -> b.lowest(gain, 1007));
    }
    answers(30, "the limit, a value below a gap is not reached", 448, () -> gap(0, 999), b -> b.lowest(3, 1446));
    answers(30, "the limit, just over the gap", 1, () -> gap(0, 999), b -> b.lowest(3, 1447));
  }

  /** The document: "The trace stays until the next run." */
  private void states() {
    for (int k = 0; k < 4; k++) {
      int setting = k;
      leavesAll(30, "setting " + setting + " and all else stays as it is", RICH,
          b -> b.lowest(setting, Long.MAX_VALUE));
      test(30, "the trace stays, setting " + setting, () -> {
        LineFollowerBench twin = rich();
        LineFollowerBench bench = rich();
        bench.lowest(setting, Long.MAX_VALUE);
        for (int what = 0; what < 6; what++) {
          same(Due.row(twin, what), Due.row(bench, what));
        }
      });
    }
    test(30, "the trace stays, also if it is refused", () -> {
      LineFollowerBench twin = rich();
      LineFollowerBench bench = rich();
      fails(ELEMENT, () -> bench.lowest(0, 0));
      for (int what = 0; what < 6; what++) {
        same(Due.row(twin, what), Due.row(bench, what));
      }
    });
    test(30, "no trace stays no trace", () -> {
      LineFollowerBench bench = new LineFollowerBench();
      bench.lowest(0, Long.MAX_VALUE);
      is(0, () -> bench.count(7));
      fails(STATE, bench::cost);
    });
    test(30, "it does not look at the trace", () -> {
      LineFollowerBench bench = ran("", 13, 200);
      bench.set(13, 1);
      is(50, () -> bench.lowest(0, 994));
    });
    test(30, "it is no change", () -> {
      LineFollowerBench bench = new LineFollowerBench();
      bench.lowest(3, Long.MAX_VALUE);
      is(0, () -> bench.count(6));
      is(400, () -> bench.setting(3));
    });
  }
}
