import java.util.function.Supplier;

/** Boundary cases of promises 18 to 22: measures, cost, reason, the mean square and the saturated share. */
public final class BoundaryMeasuresTest extends Boundary {
  public static void main(String[] args) {
    new BoundaryMeasuresTest().runAll(18, 22);
  }

  @Override
  void tests() {
    numbers();
    sums();
    greatestErrors();
    overshoots();
    settling();
    crossings();
    saturated();
    actuatorChanges();
    lastErrors();
    shorterTraces();
    costs();
    partsOfCosts();
    reasonSteps();
    reasons();
    reasonProducts();
    meanSquares();
    saturatedShares();
  }

  /** A run without gains, so that only pushes move the error: at most five errors. */
  private static LineFollowerBench errors(int... errors) {
    StringBuilder text = new StringBuilder();
    for (int t = 0; t + 1 < errors.length; t++) {
      text.append(t == 0 ? "" : ";").append('p').append(t).append(':').append(errors[t + 1] - errors[t]).append("*1");
    }
    LineFollowerBench bench = ran(text.toString(), 13, errors.length - 1, 12, errors[0], 0, 0);
    StringBuilder wanted = new StringBuilder();
    for (int error : errors) {
      wanted.append(wanted.length() == 0 ? "" : " ").append(error);
    }
    if (!wanted.toString().equals(Due.row(bench, 0))) {
      throw new IllegalStateException("errors " + Due.row(bench, 0));
    }
    return bench;
  }

  private static LineFollowerBench pushedUp() {
    return ran("p0:500*99;p0:500*99;p0:500*99;p0:500*99", 13, 200, 12, 2000, 0, 0);
  }

  private void measured(String name, int wanted, int what, int... errors) {
    answers(18, name, wanted, () -> errors(errors), b -> b.measure(what));
  }

  private void numbers() {
    refused(18, "no trace", STATE, FRESH, b -> b.measure(0));
    refused(18, "no trace comes before measure -1", STATE, FRESH, b -> b.measure(-1));
    refused(18, "no trace comes before measure 8", STATE, FRESH, b -> b.measure(8));
    for (int what : new int[] {-1, 8, MIN, MAX}) {
      refused(18, "measure " + what, ARGUMENT, RICH, b -> b.measure(what));
    }
    for (int k = 0; k < 8; k++) {
      int what = k;
      leavesAll(18, "measure " + k + " leaves all as it is", RICH, b -> b.measure(what));
      answers(18, "measure " + k + " of a run in which nothing is", 0, () -> errors(0, 0, 0), b -> b.measure(what));
    }
  }

  private void sums() {
    measured("the sum of one step", 12, 0, 5, 7);
    measured("the sum begins with E(0)", 5, 0, 5, 0);
    measured("the sum ends with E(N)", 7, 0, 0, 0, 7);
    measured("the sum of amounts", 9, 0, -5, 3, -1);
    answers(18, "the sum of 201 great errors", 1990000, BoundaryMeasuresTest::pushedUp, b -> b.measure(0));
  }

  private void greatestErrors() {
    measured("the greatest but E(0)", 20, 1, 30, 20, 10);
    measured("the greatest is E(1)", 40, 1, 30, 40, 10);
    measured("the greatest is E(N)", 40, 1, 30, 10, 40);
    measured("the greatest of one step", 7, 1, 30, 7);
    measured("the greatest amount is below 0", 40, 1, 30, -40, 39);
    measured("all 0 but E(0)", 0, 1, 30, 0, 0);
    answers(18, "the greatest of 200", 10000, BoundaryMeasuresTest::pushedUp, b -> b.measure(1));
  }

  private void overshoots() {
    measured("overshoot, E(0) is 0", 0, 2, 0, -30, 7);
    measured("overshoot, no opposite sign", 0, 2, 5, 90, 5);
    measured("overshoot, no opposite sign below 0", 0, 2, -5, -90, -5);
    measured("overshoot, 0 is not opposite", 0, 2, 5, 0, 0);
    measured("overshoot of -1", 1, 2, 5, -1, 5);
    measured("overshoot of 1", 1, 2, -5, 1, -5);
    measured("overshoot from 1", 9, 2, 1, -9);
    measured("overshoot from -1", 9, 2, -1, 9);
    measured("overshoot in E(1)", 9, 2, 5, -9, -3);
    measured("overshoot in E(N)", 9, 2, 5, -3, -9);
    measured("overshoot, greater errors of the same sign", 3, 2, 5, 90, -3);
    measured("overshoot, greater errors of the same sign below 0", 3, 2, -5, -90, 3);
  }

  private void settled(String name, int wanted, int band, int... errors) {
    test(18, "settling, " + name, () -> {
      LineFollowerBench bench = errors(errors);
      bench.set(14, band);
      is(wanted, () -> bench.measure(3));
    });
  }

  private void settling() {
    settled("just at the band", 1, 20, 30, 20, 20);
    settled("just outside of the band", -1, 19, 30, 20, 20);
    settled("just at the band below 0", 1, 20, -30, -20, -20);
    settled("just outside of the band below 0", -1, 19, -30, -20, -20);
    settled("in step 0", 0, 30, 30, 20, 20);
    settled("not in step 0", 1, 29, 30, 20, 20);
    settled("in step N alone", 2, 20, 30, 30, 20);
    settled("not in step N", -1, 20, 20, 20, 21);
    settled("out again in between", 2, 20, 20, 21, 20);
    settled("one step, both", 0, 20, 20, 20);
    settled("one step, the last error", 1, 20, 21, 20);
    settled("one step, none", -1, 20, 20, 21);
    settled("band 0", 1, 0, 5, 0, 0);
    settled("band 0 and an error of 1", -1, 0, 0, 0, 1);
    settled("band 0 and errors of 0", 0, 0, 0, 0, 0);
    settled("the greatest band", 0, 1000, 1000, 600, 1000);
    settled("the greatest band below 0", 0, 1000, -1000, -600, -1000);
    settled("just outside of the greatest band", 1, 1000, 1001, 1000, 1000);
    settled("just outside of the greatest band below 0", 1, 1000, -1001, -1000, -1000);
    test(18, "settling, in step 200", () -> {
      LineFollowerBench bench = ran("p199:-480*1", 13, 200, 0, 0);
      is(200, () -> bench.measure(3));
    });
    test(18, "settling, with the band of now", () -> {
      LineFollowerBench bench = errors(30, 20, 20);
      bench.set(14, 19);
      is(-1, () -> bench.measure(3));
      bench.set(14, 20);
      is(1, () -> bench.measure(3));
    });
  }

  private void crossings() {
    measured("crossing in the first step", 1, 4, 3, -3, -3);
    measured("crossing in the last step", 1, 4, 3, 3, -3);
    measured("crossing from below", 1, 4, -3, 3);
    measured("crossing from 1 to -1", 1, 4, 1, -1);
    measured("crossing from -1 to 1", 1, 4, -1, 1);
    measured("crossing in each step", 4, 4, 3, -3, 3, -3, 3);
    measured("no crossing to 0", 0, 4, 3, 0, 3);
    measured("no crossing through 0", 0, 4, 3, 0, -3);
    measured("no crossing from 0", 0, 4, 0, -3, 0, 3);
  }

  private void saturated() {
    answers(18, "saturated, none", 0, () -> ran("", 13, 1, 12, 400), b -> b.measure(5));
    answers(18, "saturated, the only one", 1, () -> ran("", 13, 1, 12, 401), b -> b.measure(5));
    answers(18, "saturated, the first one alone", 1, () -> limitOne(2, -1, 3), b -> b.measure(5));
    answers(18, "saturated, all but the first one", 2, () -> limitOne(1, 1, 3), b -> b.measure(5));
    answers(18, "saturated, all of 200", 200, () -> limitOne(2, 1, 200), b -> b.measure(5));
  }

  /** With an output of 1 nothing moves but by the push of step 0; an error of 1 is not saturated. */
  private static LineFollowerBench limitOne(int start, int push, int steps) {
    return ran("p0:" + push + "*1", 13, steps, 12, start, 3, 1);
  }

  private void actuatorChanges() {
    answers(18, "changes of the actuator, from 0 to the first step", 400, () -> ran("", 13, 1), b -> b.measure(6));
    answers(18, "changes of the actuator, below 0", 400, () -> ran("", 13, 1, 12, -500), b -> b.measure(6));
    answers(18, "changes of the actuator, in the first step alone", 400, () -> ran("", 13, 3), b -> b.measure(6));
    // actuators 25 0 -25 -30
    answers(18, "changes of the actuator, up and down", 80,
        () -> ran("p0:-100*1", 13, 4, 10, 1, 12, 40, 11, 0, 3, 30, 4, 25), b -> b.measure(6));
    answers(18, "changes of the actuator, in step 199", 80,
        () -> ran("p198:-80*1", 13, 200, 12, 3, 0, 0, 2, 64), b -> b.measure(6));
  }

  private void lastErrors() {
    measured("the last error of one step", 7, 7, 5, 7);
    measured("the last error below 0", -7, 7, 5, -7);
    measured("the last error 0", 0, 7, 5, 0);
    answers(18, "the last error of 200 steps", 507, () -> ran("p199:7*1", 13, 200, 0, 0), b -> b.measure(7));
  }

  /** Errors 30 20 -20: sum 70, overshoot 20; no saturated steps and no changes of the actuator. */
  private static LineFollowerBench weighted(int band, int... weights) {
    LineFollowerBench bench = errors(30, 20, -20);
    bench.set(14, band);
    for (int part = 0; part < 5; part++) {
      bench.setWeight(part, weights[part]);
    }
    return bench;
  }

  /** A run of one step after one of nine steps, in which each measure was greater. */
  private static LineFollowerBench shorter() {
    LineFollowerBench bench = ran("p0:-400*1;p1:400*9", 13, 9, 12, 3, 3, 1);
    bench.set(13, 1);
    type(bench, "p0:-3*1");
    bench.load();
    bench.set(12, 1);
    bench.run();
    return bench;
  }

  private void shorterTraces() {
    int[] due = {3, 2, 2, -1, 1, 0, 1, -2};
    for (int k = 0; k < due.length; k++) {
      int what = k;
      answers(18, "a shorter trace after a longer one, measure " + what, due[k], () -> {
        LineFollowerBench bench = shorter();
        bench.set(14, 1);
        return bench;
      }, b -> b.measure(what));
    }
    answers(18, "a shorter trace after a longer one below 0, overshoot", 2, () -> {
      LineFollowerBench bench = ran("p0:-3*9", 13, 9, 12, 1, 0, 0);
      bench.set(13, 1);
      bench.run();
      return bench;
    }, b -> b.measure(2));
    answers(18, "a shorter trace after a longer one, settled", 0, BoundaryMeasuresTest::shorter, b -> b.measure(3));
    answers(19, "a shorter trace after a longer one", 5, BoundaryMeasuresTest::shorter, LineFollowerBench::cost);
    square("a shorter trace after a longer one", 2.5, BoundaryMeasuresTest::shorter);
    share("a shorter trace after a longer one", 0.0f, BoundaryMeasuresTest::shorter);
    answers(18, "the greatest is E(200)", 497, () -> ran("p199:-500*1", 13, 200, 12, 3, 0, 0), b -> b.measure(1));
    answers(18, "overshoot in E(200)", 497, () -> ran("p199:-500*1", 13, 200, 12, 3, 0, 0), b -> b.measure(2));
    answers(18, "crossing in step 199", 1, () -> ran("p199:-500*1", 13, 200, 12, 3, 0, 0), b -> b.measure(4));
    answers(18, "the sum ends with E(200)", 1097, () -> ran("p199:-500*1", 13, 200, 12, 3, 0, 0), b -> b.measure(0));
    answers(18, "saturated, step 199 alone", 1, () -> ran("p198:1*1", 13, 200, 12, 1, 3, 1), b -> b.measure(5));
  }

  private void costs() {
    refused(19, "no trace", STATE, FRESH, LineFollowerBench::cost);
    refused(19, "no trace, although search found a cost", STATE, () -> {
      LineFollowerBench bench = new LineFollowerBench();
      bench.search();
      return bench;
    }, LineFollowerBench::cost);
    leavesAll(19, "it leaves all as it is", RICH, LineFollowerBench::cost);
    answers(19, "the weights at first", 90, () -> errors(30, 20, -20), LineFollowerBench::cost);
    answers(19, "no weights", 0, () -> weighted(20, 0, 0, 0, 0, 0), LineFollowerBench::cost);
    answers(19, "the greatest weight of the sum", 6930, () -> weighted(20, 99, 0, 0, 0, 0), LineFollowerBench::cost);
    answers(19, "the greatest weight of the overshoot", 1980, () -> weighted(20, 0, 99, 0, 0, 0),
        LineFollowerBench::cost);
    answers(19, "the greatest weight of no saturated steps", 0, () -> weighted(20, 0, 0, 99, 0, 0),
        LineFollowerBench::cost);
    answers(19, "the greatest weight of no changes", 0, () -> weighted(20, 0, 0, 0, 99, 0), LineFollowerBench::cost);
    answers(19, "settled in step 1", 99, () -> weighted(20, 0, 0, 0, 0, 99), LineFollowerBench::cost);
    answers(19, "settled in step 0", 0, () -> weighted(30, 0, 0, 0, 0, 99), LineFollowerBench::cost);
    answers(19, "not settled", 99000, () -> weighted(19, 0, 0, 0, 0, 99), LineFollowerBench::cost);
  }

  private void partsOfCosts() {
    // one step: sum 994, no overshoot, one saturated step, changes of 400, not settled
    int[] parts = {994, 0, 1, 400, 1000};
    for (int k = 0; k < 5; k++) {
      int part = k;
      test(19, "part " + k + " alone", () -> {
        LineFollowerBench bench = ran("", 13, 1);
        for (int other = 0; other < 5; other++) {
          bench.setWeight(other, other == part ? 99 : 0);
        }
        is(99L * parts[part], bench::cost);
      });
    }
    test(19, "the settling step N", () -> {
      LineFollowerBench bench = errors(30, 30, 20);
      bench.setWeight(0, 0);
      bench.setWeight(4, 99);
      is(198, bench::cost);
    });
    test(19, "great parts with the greatest weights", () -> {
      LineFollowerBench bench = pushedUp();
      for (int part = 0; part < 5; part++) {
        bench.setWeight(part, 99);
      }
      is(99L * (1990000 + 1000), bench::cost);
    });
    test(19, "the weights of now", () -> {
      LineFollowerBench bench = errors(30, 20, -20);
      bench.setWeight(0, 2);
      is(160, bench::cost);
      bench.undo();
      is(90, bench::cost);
    });
    test(19, "the band of now", () -> {
      LineFollowerBench bench = weighted(20, 0, 0, 0, 0, 1);
      bench.set(14, 19);
      is(1000, bench::cost);
      bench.set(14, 30);
      is(0, bench::cost);
    });
  }

  private void reasonSteps() {
    refused(20, "no trace", STATE, FRESH, b -> b.reason(0));
    refused(20, "no trace comes before step -1", STATE, FRESH, b -> b.reason(-1));
    refused(20, "no trace comes before a step too great", STATE, FRESH, b -> b.reason(200));
    // the rich bench has a trace of four steps
    refused(20, "step -1", INDEX, RICH, b -> b.reason(-1));
    refused(20, "step 4 of four, the one after the last", INDEX, RICH, b -> b.reason(4));
    refused(20, "step of the least int", INDEX, RICH, b -> b.reason(MIN));
    refused(20, "step of the greatest int", INDEX, RICH, b -> b.reason(MAX));
    refused(20, "one step, step 1", INDEX, () -> ran("", 13, 1), b -> b.reason(1));
    answers(20, "one step, step 0", 0, () -> ran("", 13, 1), b -> b.reason(0));
    Supplier<LineFollowerBench> longest = () -> ran("p198:-80*1", 13, 200, 12, 3, 0, 0, 2, 640);
    answers(20, "200 steps, the one before the last", -1, longest, b -> b.reason(198));
    answers(20, "200 steps, the last one", 2, longest, b -> b.reason(199));
    refused(20, "200 steps, the one after the last", INDEX, longest, b -> b.reason(200));
    refused(20, "a step of the run before, which was longer", INDEX, () -> {
      LineFollowerBench bench = ran("", 13, 9);
      bench.set(13, 2);
      bench.run();
      return bench;
    }, b -> b.reason(2));
    leavesAll(20, "it leaves all as it is", RICH, b -> b.reason(3));
  }

  /** Seen values 0 1 3 6, integrals 0 1 4 10, changes 0 1 2 3; or the same to the other side. */
  private void reason(String name, int wanted, int step, int proportional, int integral, int derivative) {
    for (int side : new int[] {1, -1}) {
      test(20, name + (side > 0 ? "" : ", below 0"), () -> {
        LineFollowerBench bench = ran("b99:" + 8 * side, 13, 4, 12, 0, 0, 0);
        bench.set(0, proportional);
        bench.set(1, integral);
        bench.set(2, derivative);
        is(wanted, () -> bench.reason(step));
      });
    }
  }

  private void reasons() {
    reason("no gains", -1, 3, 0, 0, 0);
    reason("the greatest gains, but values of 0", -1, 0, 999, 999, 999);
    reason("all three the same", 0, 1, 1, 1, 1);
    reason("the first and the second the same", 0, 1, 1, 1, 0);
    reason("the first and the third the same", 0, 1, 1, 0, 1);
    reason("the second and the third the same", 1, 1, 0, 1, 1);
    reason("the second and the third the same, the first less", 1, 1, 1, 2, 2);
    reason("the first just greater than the second", 0, 2, 3, 2, 0);
    reason("the second just greater than the first", 1, 2, 5, 4, 0);
    reason("the third just greater than both", 2, 2, 4, 3, 7);
    reason("the third just as great as both", 0, 2, 4, 3, 6);
    reason("the third just less than the second", 1, 3, 0, 2, 6);
    reason("the least product", 2, 1, 0, 0, 1);
  }

  private void reasonProducts() {
    test(20, "no change in step 0", () -> {
      LineFollowerBench bench = ran("", 13, 1, 12, 5);
      bench.set(0, 0);
      bench.set(2, 999);
      is(-1, () -> bench.reason(0));
    });
    // seen 10 -5, integrals 10 5, change -15
    test(20, "amounts that are the same with opposite signs", () -> {
      LineFollowerBench bench = ran("p0:-15*1", 13, 2, 12, 10, 0, 0);
      bench.set(0, 1);
      bench.set(1, 1);
      is(0, () -> bench.reason(1));
      bench.set(1, 3);
      bench.set(2, 1);
      is(1, () -> bench.reason(1));
    });
    test(20, "the greatest products do not wrap around", () -> {
      LineFollowerBench bench = pushedUp();
      bench.set(0, 999);
      bench.set(1, 999);
      bench.set(2, 999);
      is(1, () -> bench.reason(150));
      bench.set(1, 10);
      is(1, () -> bench.reason(150));
      bench.set(1, 9);
      is(0, () -> bench.reason(150));
    });
    test(20, "the gains of now", () -> {
      LineFollowerBench bench = ran("", 13, 2, 12, 5);
      bench.set(0, 0);
      is(-1, () -> bench.reason(1));
      bench.undo();
      is(0, () -> bench.reason(1));
    });
    test(20, "the integral after the step", () -> {
      LineFollowerBench bench = ran("", 13, 1, 12, 5, 0, 0);
      bench.set(1, 1);
      is(1, () -> bench.reason(0));
    });
    test(20, "an integral that was kept at 0", () -> {
      LineFollowerBench bench = ran("", 13, 1, 7, 2);
      bench.set(0, 1);
      bench.set(1, 999);
      is(0, () -> bench.reason(0));
    });
    test(20, "a run of two outputs, which leaves the integral at 0", () -> {
      LineFollowerBench bench = ran("", 13, 1, 10, 1);
      bench.set(0, 0);
      bench.set(1, 999);
      is(-1, () -> bench.reason(0));
      bench.set(0, 1);
      is(0, () -> bench.reason(0));
    });
    test(20, "a run by a table", () -> {
      LineFollowerBench bench = ran("p0:9*1", 13, 2, 10, 2, 12, 5);
      bench.set(0, 1);
      bench.set(2, 2);
      is(2, () -> bench.reason(1));
    });
  }

  private void square(String name, double wanted, Supplier<LineFollowerBench> bench) {
    answers(21, name, Double.doubleToLongBits(wanted), bench, LineFollowerBench::meanSquareBits);
  }

  private void meanSquares() {
    refused(21, "no trace", STATE, FRESH, LineFollowerBench::meanSquareBits);
    leavesAll(21, "it leaves all as it is", RICH, LineFollowerBench::meanSquareBits);
    answers(21, "all errors 0", 0L, () -> errors(0, 0, 0), LineFollowerBench::meanSquareBits);
    square("one step", 247018.0, () -> ran("", 13, 1));
    square("the first error alone", 0.5, () -> errors(1, 0));
    square("the last error alone", 0.5, () -> errors(0, 1));
    square("errors below 0", 9.0, () -> errors(-3, -3, 3));
    square("just 1", 1.0, () -> errors(1, -1));
    square("just below 1", 2.0 / 3.0, () -> errors(1, 0, -1));
    square("just above 1", 4.0 / 3.0, () -> errors(2, 0, 0));
    square("the least one above 0", 1.0 / 201.0, () -> ran("p0:-1*1", 13, 200, 12, 1, 0, 0));
    square("200 steps", 19820000000.0 / 201.0, BoundaryMeasuresTest::pushedUp);
    square("the number of errors is not the number of steps", 4.5, () -> errors(3, 0));
  }

  private void share(String name, float wanted, Supplier<LineFollowerBench> bench) {
    answers(22, name, Float.floatToIntBits(wanted), bench, LineFollowerBench::saturatedBits);
  }

  private void saturatedShares() {
    refused(22, "no trace", STATE, FRESH, LineFollowerBench::saturatedBits);
    leavesAll(22, "it leaves all as it is", RICH, LineFollowerBench::saturatedBits);
    answers(22, "none of one step", 0, () -> ran("", 13, 1, 12, 0), LineFollowerBench::saturatedBits);
    answers(22, "none of 200 steps", 0, () -> limitOne(1, 0, 200), LineFollowerBench::saturatedBits);
    share("all of one step", 1.0f, () -> limitOne(2, 0, 1));
    share("all of 200 steps", 1.0f, () -> limitOne(2, 0, 200));
    share("one of 200 steps", 1.0f / 200.0f, () -> limitOne(2, -1, 200));
    share("all but one of 200 steps", 199.0f / 200.0f, () -> limitOne(1, 1, 200));
    share("one of two steps", 0.5f, () -> limitOne(2, -1, 2));
    share("one of three steps", 1.0f / 3.0f, () -> limitOne(2, -1, 3));
    share("two of three steps", 2.0f / 3.0f, () -> limitOne(1, 1, 3));
    test(22, "the number of steps of the trace, not of the setting", () -> {
      LineFollowerBench bench = limitOne(2, -1, 2);
      bench.set(13, 200);
      is(Float.floatToIntBits(0.5f), bench::saturatedBits);
    });
  }
}
