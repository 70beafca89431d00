import java.util.function.Supplier;
import java.util.function.ToLongFunction;

/** Boundary cases of promises 16 and 17: runs and their traces; the rows that are due were worked out by hand. */
public final class BoundaryRunTest extends Boundary {
  private static final int ERROR = 0;
  private static final int SEEN = 1;
  private static final int OUTPUT = 2;
  private static final int ACTUATOR = 3;
  private static final int INTEGRAL = 4;
  private static final int SATURATED = 5;

  public static void main(String[] args) {
    new BoundaryRunTest().runAll(16, 17);
  }

  @Override
  void tests() {
    lengths();
    sensor();
    delay();
    saturation();
    actuator();
    motion();
    errorLimits();
    headingLimits();
    integralLimits();
    wayOne();
    wayTwo();
    wayThree();
    twoOutputs();
    byTable();
    stateOfRuns();
    leaving();
    steps();
    parts();
    staying();
  }

  /** The part of the trace is this row. */
  private void row(String name, String wanted, int part, Supplier<LineFollowerBench> bench) {
    test(16, name, () -> {
      LineFollowerBench one = bench.get();
      one.run();
      same(wanted, Due.row(one, part));
    });
  }

  private void row(String name, String wanted, int part, String text, int... settings) {
    row(name, wanted, part, () -> with(text, settings));
  }

  private void lengths() {
    answers(16, "one step, the least number", 494, () -> with("", 13, 1), LineFollowerBench::run);
    row("one step has two errors", "500 494", ERROR, "", 13, 1);
    row("one step has one output", "400", OUTPUT, "", 13, 1);
    test(16, "200 steps, the greatest number", () -> {
      LineFollowerBench bench = with("p199:7*1", 13, 200, 0, 0);
      is(507, bench::run);
      is(500, () -> bench.trace(199, ERROR));
      is(507, () -> bench.trace(200, ERROR));
    });
    answers(16, "a disturbance just behind the last step", 500, () -> with("p3:7*1", 13, 3, 0, 0),
        LineFollowerBench::run);
    answers(16, "a disturbance in the last step", 507, () -> with("p2:7*1", 13, 3, 0, 0), LineFollowerBench::run);
    answers(16, "a bend just behind the last step", 500, () -> with("s3;b1:50", 13, 3, 0, 0),
        LineFollowerBench::run);
    answers(16, "a bend in the last step", 506, () -> with("s2;b1:50", 13, 3, 0, 0), LineFollowerBench::run);
    answers(16, "a bend in step 199", 506, () -> with("s99;s99;s1;b9:50", 13, 200, 0, 0), LineFollowerBench::run);
    row("the least start", "-2000 -1994", ERROR, "", 13, 1, 12, -2000);
    row("the greatest start", "2000 1994", ERROR, "", 13, 1, 12, 2000);
    row("the start 0", "0 0 0", ERROR, "", 13, 2, 12, 0);
    row("no gains", "0 0", OUTPUT, "", 13, 2, 0, 0);
  }

  private void sensor() {
    int[][] seen = {{99, 0}, {100, 100}, {101, 100}, {199, 100}, {200, 200}, {0, 0}, {-99, 0}, {-100, -100},
      {-101, -100}, {-199, -100}, {-200, -200}};
    for (int[] pair : seen) {
      row("sensor step 100 at " + pair[0], "" + pair[1], SEEN, "", 13, 1, 5, 100, 12, pair[0]);
    }
    row("sensor step 1", "-99", SEEN, "", 13, 1, 5, 1, 12, -99);
    row("sensor step 2 at 1", "0", SEEN, "", 13, 1, 5, 2, 12, 1);
    row("sensor step 2 at -1", "0", SEEN, "", 13, 1, 5, 2, 12, -1);
    row("the error itself has no steps", "99 99", ERROR, "", 13, 1, 5, 100, 12, 99);
  }

  private void delay() {
    // errors 0 1 3 6 10 15 21
    String bend = "b99:8";
    row("delay 0", "0 1 3 6", SEEN, bend, 13, 4, 12, 0, 0, 0, 6, 0);
    row("delay 1, just before and at its end", "0 0 1 3", SEEN, bend, 13, 4, 12, 0, 0, 0, 6, 1);
    row("delay 5, up to its end", "0 0 0 0 0 0 1", SEEN, bend, 13, 7, 12, 0, 0, 0, 6, 5);
    row("delay 5, fewer steps than it", "7 7 7", SEEN, "p0:1*9", 13, 3, 12, 7, 0, 0, 6, 5);
    row("delay 5, as many steps as it", "7 7 7 7 7", SEEN, "p0:1*9", 13, 5, 12, 7, 0, 0, 6, 5);
    row("delay 5, one step", "7", SEEN, "p0:1*9", 13, 1, 12, 7, 0, 0, 6, 5);
    row("no change in step 0", "0", OUTPUT, "", 13, 1, 0, 0, 2, 999);
    row("a change in step 1", "0 1", OUTPUT, bend, 13, 2, 12, 0, 0, 0, 2, 64);
    row("no change up to the end of the delay", "0 0 0 1", OUTPUT, bend, 13, 4, 12, 0, 0, 0, 2, 64, 6, 2);
    row("a change below 0", "0 -1", OUTPUT, "b99:-8", 13, 2, 12, 0, 0, 0, 2, 64);
    test(16, "a change in step 199", () -> {
      LineFollowerBench bench = ran("p198:-80*1", 13, 200, 12, 3, 0, 0, 2, 64);
      is(0, () -> bench.trace(198, OUTPUT));
      is(-80, () -> bench.trace(199, OUTPUT));
    });
  }

  private void saturation() {
    row("just at the limit", "0", SATURATED, "", 13, 1, 12, 400);
    row("just above the limit", "1", SATURATED, "", 13, 1, 12, 401);
    row("just above the limit, the output", "400", OUTPUT, "", 13, 1, 12, 401);
    row("just at the limit below 0", "0", SATURATED, "", 13, 1, 12, -400);
    row("just below the limit below 0", "1", SATURATED, "", 13, 1, 12, -401);
    row("just below the limit below 0, the output", "-400", OUTPUT, "", 13, 1, 12, -401);
    row("limit 1, at it", "0", SATURATED, "", 13, 1, 3, 1, 12, 1);
    row("limit 1, above it", "1", SATURATED, "", 13, 1, 3, 1, 12, 2);
    row("limit 1000, at it", "0", SATURATED, "", 13, 1, 3, 1000, 12, 1000);
    row("limit 1000, above it", "1", SATURATED, "", 13, 1, 3, 1000, 12, 1001);
    row("a raw output of 63 / 64", "0", OUTPUT, "", 13, 1, 0, 63, 12, 1);
    row("a raw output of 64 / 64", "1", OUTPUT, "", 13, 1, 0, 64, 12, 1);
    row("a raw output of -63 / 64", "0", OUTPUT, "", 13, 1, 0, 63, 12, -1);
    row("a raw output of -64 / 64", "-1", OUTPUT, "", 13, 1, 0, 64, 12, -1);
    row("a raw output of -127 / 64", "-1", OUTPUT, "", 13, 1, 0, 127, 12, -1);
    row("shares that make 64 together", "1", OUTPUT, "", 13, 1, 0, 32, 1, 32, 12, 1);
    row("shares that make 63 together", "0", OUTPUT, "", 13, 1, 0, 32, 1, 31, 12, 1);
    row("the greatest gain", "15", OUTPUT, "", 13, 1, 0, 999, 12, 1);
    row("saturated just because of the division", "0", SATURATED, "", 13, 1, 0, 127, 3, 1, 12, 1);
  }

  private void actuator() {
    row("differs by just the greatest change", "50 50", ACTUATOR, "", 13, 2, 4, 50, 3, 50);
    row("differs by one more", "49 50", ACTUATOR, "", 13, 2, 4, 49, 3, 50);
    row("differs by just the greatest change below 0", "-50 -50", ACTUATOR, "", 13, 2, 4, 50, 3, 50, 12, -500);
    row("differs by one more below 0", "-49 -50", ACTUATOR, "", 13, 2, 4, 49, 3, 50, 12, -500);
    row("the least greatest change", "1 2 3", ACTUATOR, "", 13, 3, 4, 1);
    row("the output is not the actuator", "400 400 400", OUTPUT, "", 13, 3, 4, 1);
    String down = "p0:-100*1";
    row("the greatest one, twice as far", "1000 0 -1000", ACTUATOR, down, 13, 3, 10, 1, 12, 40, 11, 0, 3, 1000);
    row("one less than the greatest one", "999 0 -999 -1000", ACTUATOR, down, 13, 4, 10, 1, 12, 40, 11, 0, 3, 1000,
        4, 999);
    row("no difference", "0 0", ACTUATOR, "", 13, 2, 12, 0, 4, 1);
  }

  private void motion() {
    row("an actuator of 7 does not turn", "7 7 7 7 7 7 7 7 7", ERROR, "", 13, 8, 12, 7);
    row("an actuator of 8 does", "8 8 8 8 8 8 8 8 7", ERROR, "", 13, 8, 12, 8);
    row("an actuator of -7 does not turn", "-7 -7 -7 -7 -7 -7 -7 -7 -7", ERROR, "", 13, 8, 12, -7);
    row("an actuator of -8 does", "-8 -8 -8 -8 -8 -8 -8 -8 -7", ERROR, "", 13, 8, 12, -8);
    row("a heading of 7 does not move", "0 0 0", ERROR, "b1:7", 13, 2, 12, 0, 0, 0);
    row("a heading of 8 does", "0 1 2", ERROR, "b1:8", 13, 2, 12, 0, 0, 0);
    row("a heading of -7 does not move", "0 0 0", ERROR, "b1:-7", 13, 2, 12, 0, 0, 0);
    row("a heading of -8 does", "0 -1 -2", ERROR, "b1:-8", 13, 2, 12, 0, 0, 0);
    row("actuator and curvature that take each other away", "64 64 64", ERROR, "b9:8", 13, 2, 12, 64);
    row("the actuator as it is now", "500 485", ERROR, "", 13, 1, 0, 128, 3, 1000);
  }

  private void errorLimits() {
    // 1900 a step for four steps, then 400 a step for two
    String up = "p0:500*4;p0:500*4;p0:500*4;p0:400*6";
    String down = "p0:-500*4;p0:-500*4;p0:-500*4;p0:-400*6";
    row("the error just below 10000", "1599 3499 5399 7299 9199 9599 9999", ERROR, up, 13, 6, 12, 1599, 0, 0);
    row("the error just at 10000", "1600 3500 5400 7300 9200 9600 10000", ERROR, up, 13, 6, 12, 1600, 0, 0);
    row("the error just above 10000", "1601 3501 5401 7301 9201 9601 10000", ERROR, up, 13, 6, 12, 1601, 0, 0);
    row("the error just above -10000", "-1599 -3499 -5399 -7299 -9199 -9599 -9999", ERROR, down,
        13, 6, 12, -1599, 0, 0);
    row("the error just at -10000", "-1600 -3500 -5400 -7300 -9200 -9600 -10000", ERROR, down,
        13, 6, 12, -1600, 0, 0);
    row("the error just below -10000", "-1601 -3501 -5401 -7301 -9201 -9601 -10000", ERROR, down,
        13, 6, 12, -1601, 0, 0);
    test(16, "the error from its limit on", () -> {
      LineFollowerBench bench = ran("p0:500*99;p0:500*99;p0:500*99;p99:-1*1", 13, 101, 12, 2000, 0, 0);
      is(10000, () -> bench.trace(99, ERROR));
      is(9999, () -> bench.trace(100, ERROR));
    });
  }

  /** The table makes the output -1000, so that the heading grows by 125 a step: after 80 steps it is 10000. */
  private void headingLimits() {
    headingLimit("the heading just below its limit", 78, 9875, -1);
    headingLimit("the heading just at its limit", 79, 10000, -1);
    headingLimit("the heading just above its limit", 80, 10000, -1);
    headingLimit("the heading long above its limit", 99, 10000, -1);
    headingLimit("the heading just above its limit below 0", 78, 9875, 1);
    headingLimit("the heading just at its limit below 0", 79, 10000, 1);
    headingLimit("the heading just below its limit below 0", 80, 10000, 1);
    headingLimit("the heading long below its limit below 0", 99, 10000, 1);
  }

  /** With the error at its limit, a push of 2000 against it shows the heading of the step. */
  private void headingLimit(String name, int step, int heading, int side) {
    test(16, name, () -> {
      String push = "p" + step + ":" + 500 * side + "*1";
      LineFollowerBench bench = with(push + ";" + push + ";" + push + ";" + push,
          10, 2, 3, 1000, 13, step + 1, 12, -2000 * side);
      bench.setPoint(0, 1000 * side);
      is(-side * (10000 + heading / 8 - 2000), bench::run);
      is(-10000 * side, () -> bench.trace(step, ERROR));
    });
  }

  /** The error is 10000 from step 4 or 5 on, so that the integral grows by this. */
  private void integralLimits() {
    integralLimit("the integral just at its limit", 2000, 101, 1000000);
    integralLimit("the integral just behind its limit", 2000, 102, 1000000);
    integralLimit("the integral just before its limit", 1999, 101, 999995);
    integralLimit("the integral over its limit", 1999, 102, 1000000);
    integralLimit("the integral in the last step", 1999, 199, 1000000);
    test(16, "the integral from its limit on", () -> {
      LineFollowerBench bench = ran("p0:500*99;p0:500*99;p0:500*99;p103:-500*99", 13, 200, 12, 2000, 0, 0);
      is(1000000, () -> bench.trace(110, INTEGRAL));
      is(1000000, () -> bench.trace(123, INTEGRAL));
      is(-500, () -> bench.trace(124, ERROR));
      is(999500, () -> bench.trace(124, INTEGRAL));
    });
    // the raw output is (999 * 10000 + 999 * 1000000) / 64 = 15765468; its sign is seen in the integral of way 3
    test(16, "the greatest products do not wrap around", () -> {
      LineFollowerBench bench = ran("p0:500*99;p0:500*99;p0:500*99;p0:500*99",
          13, 200, 12, 2000, 3, 1, 0, 999, 1, 999, 2, 999, 7, 0);
      is(1000000, () -> bench.trace(199, INTEGRAL));
      is(1, () -> bench.trace(199, OUTPUT));
    });
    test(16, "the greatest products of way 3 do not wrap around", () -> {
      LineFollowerBench bench = ran("p0:500*99;p0:500*99;p0:500*99;p0:500*99",
          13, 200, 12, 2000, 3, 1, 0, 999, 1, 999, 2, 999, 7, 3, 9, 64);
      for (int step = 100; step < 200; step++) {
        int at = step;
        is(step % 2 == 0 ? -1000000 : 1000000, () -> bench.trace(at, INTEGRAL));
        is(step % 2 == 0 ? 1 : -1, () -> bench.trace(at, OUTPUT));
      }
    });
  }

  private void integralLimit(String name, int start, int step, int wanted) {
    for (int side : new int[] {1, -1}) {
      test(16, name + (side > 0 ? "" : " below 0"), () -> {
        String push = "p0:" + 500 * side + "*99";
        LineFollowerBench bench = ran(push + ";" + push + ";" + push + ";" + push,
            13, 200, 12, start * side, 0, 0);
        is(wanted * side, () -> bench.trace(step, INTEGRAL));
      });
    }
  }

  private void wayOne() {
    row("way 1, just at the bound", "500", INTEGRAL, "", 13, 1, 7, 1, 8, 500);
    row("way 1, just above the bound", "499", INTEGRAL, "", 13, 1, 7, 1, 8, 499);
    row("way 1, just below the bound", "500", INTEGRAL, "", 13, 1, 7, 1, 8, 501);
    row("way 1, just at the bound below 0", "-500", INTEGRAL, "", 13, 1, 7, 1, 8, 500, 12, -500);
    row("way 1, just below the bound below 0", "-499", INTEGRAL, "", 13, 1, 7, 1, 8, 499, 12, -500);
    row("way 1, bound 0", "0 0", INTEGRAL, "", 13, 2, 7, 1, 8, 0);
    row("way 1, bound 0 below 0", "0 0", INTEGRAL, "", 13, 2, 7, 1, 8, 0, 12, -500);
    row("way 1, before the raw output", "10", OUTPUT, "", 13, 1, 7, 1, 8, 10, 0, 0, 1, 64);
    test(16, "way 1, the greatest bound", () -> {
      LineFollowerBench bench = ran("p0:500*99;p0:500*99;p0:500*99;p0:500*99",
          13, 20, 12, 2000, 0, 0, 7, 1, 8, 100000);
      is(100000, () -> bench.trace(11, INTEGRAL));
      is(100000, () -> bench.trace(12, INTEGRAL));
    });
    for (int way : new int[] {0, 2, 3}) {
      row("way " + way + " has no bound", "300", INTEGRAL, "", 13, 1, 7, way, 8, 0, 12, 300);
    }
  }

  private void wayTwo() {
    row("way 2, just at the limit", "400", INTEGRAL, "", 13, 1, 7, 2, 12, 400);
    row("way 2, just above the limit", "0", INTEGRAL, "", 13, 1, 7, 2, 12, 401);
    row("way 2, just at the limit below 0", "-400", INTEGRAL, "", 13, 1, 7, 2, 12, -400);
    row("way 2, just below the limit below 0", "0", INTEGRAL, "", 13, 1, 7, 2, 12, -401);
    row("way 2, the least seen value", "0", INTEGRAL, "", 13, 1, 7, 2, 12, 1, 0, 999, 3, 1);
    row("way 2, the least seen value below 0", "0", INTEGRAL, "", 13, 1, 7, 2, 12, -1, 0, 999, 3, 1);
    row("way 2, raw output below 0 against the seen value", "2000 3500", INTEGRAL, "p0:-500*9",
        13, 2, 7, 2, 12, 2000, 0, 0, 2, 999);
    row("way 2, raw output above 0 against the seen value", "-2000 -3500", INTEGRAL, "p0:500*9",
        13, 2, 7, 2, 12, -2000, 0, 0, 2, 999);
    // the change alone saturates when the seen value becomes 0
    row("way 2, a seen value of 0", "500 500", INTEGRAL, "p0:-500*1", 13, 2, 7, 2, 0, 0, 2, 999);
    row("way 2, a seen value of 0 is saturated", "0 1", SATURATED, "p0:-500*1", 13, 2, 7, 2, 0, 0, 2, 999);
    row("way 0, above the limit", "401", INTEGRAL, "", 13, 1, 7, 0, 12, 401);
  }

  private void wayThree() {
    row("way 3, just at the limit", "400", INTEGRAL, "", 13, 1, 7, 3, 12, 400);
    row("way 3, just above the limit", "400", INTEGRAL, "", 13, 1, 7, 3, 12, 401);
    row("way 3, just at the limit below 0", "-400", INTEGRAL, "", 13, 1, 7, 3, 12, -400);
    row("way 3, just below the limit below 0", "-400", INTEGRAL, "", 13, 1, 7, 3, 12, -401);
    row("way 3, factor 0", "401", INTEGRAL, "", 13, 1, 7, 3, 9, 0, 12, 401);
    row("way 3, factor 64", "397", INTEGRAL, "", 13, 1, 7, 3, 9, 64, 12, 401);
    row("way 3, factor 1, 15 / 16 is 0", "415", INTEGRAL, "", 13, 1, 7, 3, 9, 1, 12, 415);
    row("way 3, factor 1, 16 / 16 is 1", "415", INTEGRAL, "", 13, 1, 7, 3, 9, 1, 12, 416);
    row("way 3, factor 1, -15 / 16 is 0", "-415", INTEGRAL, "", 13, 1, 7, 3, 9, 1, 12, -415);
    row("way 3, factor 1, -16 / 16 is -1", "-415", INTEGRAL, "", 13, 1, 7, 3, 9, 1, 12, -416);
    row("way 3, limited to 1000000", "-121272 1000000", INTEGRAL, "",
        13, 2, 7, 3, 9, 64, 12, 2000, 0, 0, 1, 999);
    row("way 3, limited to -1000000", "121272 -1000000", INTEGRAL, "",
        13, 2, 7, 3, 9, 64, 12, -2000, 0, 0, 1, 999);
  }

  private void twoOutputs() {
    int[][] due = {{51, 400}, {50, 0}, {49, 0}, {0, 0}, {-50, 0}, {-51, -400}};
    for (int[] pair : due) {
      row("two outputs at " + pair[0], "" + pair[1], OUTPUT, "", 13, 1, 10, 1, 12, pair[0]);
    }
    row("two outputs, dead band 0 at 1", "400", OUTPUT, "", 13, 1, 10, 1, 11, 0, 12, 1);
    row("two outputs, dead band 0 at 0", "0", OUTPUT, "", 13, 1, 10, 1, 11, 0, 12, 0);
    row("two outputs, dead band 0 at -1", "-400", OUTPUT, "", 13, 1, 10, 1, 11, 0, 12, -1);
    row("two outputs, dead band 1000 at 1000", "0", OUTPUT, "", 13, 1, 10, 1, 11, 1000, 12, 1000);
    row("two outputs, dead band 1000 at 1001", "400", OUTPUT, "", 13, 1, 10, 1, 11, 1000, 12, 1001);
    row("two outputs, limit 1", "1", OUTPUT, "", 13, 1, 10, 1, 3, 1);
    row("two outputs, kept just inside of the dead band", "400 400", OUTPUT, "p0:5*1", 13, 2, 10, 1, 12, 51);
    row("two outputs, kept at the other end of the dead band", "400 400", OUTPUT, "p0:-95*1",
        13, 2, 10, 1, 12, 51);
    row("two outputs, at the other end, the error", "51 -50 -62", ERROR, "p0:-95*1", 13, 2, 10, 1, 12, 51);
    row("two outputs, just behind the other end", "400 -400", OUTPUT, "p0:-96*1", 13, 2, 10, 1, 12, 51);
    row("two outputs are never saturated", "0 0", SATURATED, "p0:-96*1", 13, 2, 10, 1, 12, 51);
    row("two outputs, the integral stays", "0 0", INTEGRAL, "", 13, 2, 10, 1, 1, 999, 7, 3);
    row("two outputs, 0 at first although the run before ended with another one", "0", OUTPUT, () -> {
      LineFollowerBench bench = ran("", 13, 1, 10, 1, 12, 51);
      bench.set(12, 50);
      return bench;
    });
    row("two outputs, the output of before is kept, not the actuator", "400 400", OUTPUT, "p0:-9*1",
        13, 2, 10, 1, 12, 51, 4, 1);
  }

  private void byTable() {
    row("an empty table", "0 0", OUTPUT, "", 13, 2, 10, 2);
    row("an empty table is not saturated", "0 0", SATURATED, "", 13, 2, 10, 2);
    row("by a table, just at the limit", "0", SATURATED, () -> pointed(0, 0, 1000, 800));
    row("by a table, just above the limit", "1", SATURATED, () -> pointed(0, 0, 1000, 802));
    row("by a table, the output above the limit", "400", OUTPUT, () -> pointed(0, 0, 1000, 802));
    row("by a table, the output below the limit below 0", "-400", OUTPUT, () -> pointed(0, 0, 1000, -802));
    row("by a table, at its last point", "7", OUTPUT, () -> pointed(499, 5, 500, 7));
    row("by a table, at its first point", "5", OUTPUT, () -> pointed(500, 5, 501, 7));
    row("by a table, before its first point", "5", OUTPUT, () -> pointed(501, 5, 502, 7));
    row("by a table, behind its last point", "7", OUTPUT, () -> pointed(498, 5, 499, 7));
    row("by a table, the integral stays", "0", INTEGRAL, () -> {
      LineFollowerBench bench = pointed(0, 1000, 1, 1000);
      bench.set(1, 999);
      bench.set(7, 3);
      return bench;
    });
    row("points do not matter to controller 0", "400", OUTPUT, () -> {
      LineFollowerBench bench = pointed(0, -9, 1, -9);
      bench.set(10, 0);
      return bench;
    });
  }

  private static LineFollowerBench pointed(int place, int value, int otherPlace, int otherValue) {
    LineFollowerBench bench = with("", 13, 1, 10, 2);
    bench.setPoint(place, value);
    bench.setPoint(otherPlace, otherValue);
    return bench;
  }

  private void stateOfRuns() {
    test(16, "it is no change", () -> {
      LineFollowerBench bench = new LineFollowerBench();
      bench.run();
      is(0, () -> bench.count(6));
    });
    test(16, "a second run begins anew", () -> {
      LineFollowerBench bench = rich();
      int first = bench.run();
      is(first, bench::run);
    });
    beginsAnew("the error", "500 494 474 456", ERROR, 13, 3);
    beginsAnew("the actuator", "1 2 3", ACTUATOR, 13, 3, 4, 1);
    beginsAnew("the integral", "500 994 1468", INTEGRAL, 13, 3);
    beginsAnew("the heading", "500 500 492 492 492 492 492 492 491", ERROR, 13, 8, 3, 8);
    row("a second run begins anew, the output", "0 0 400", OUTPUT,
        () -> ran("p1:8*1", 13, 3, 10, 1, 11, 495, 12, 495));
    beginsAnew("the seen values of before", "0 0 -8", OUTPUT, 13, 3, 0, 0, 2, 64, 12, 9);
    leavesAll(16, "the same run again leaves all as it is", () -> {
      LineFollowerBench bench = rich();
      bench.run();
      return bench;
    }, LineFollowerBench::run);
    test(16, "a run of one step after one of 200", () -> {
      LineFollowerBench bench = ran("", 13, 200);
      bench.set(13, 1);
      is(494, bench::run);
      is(1, () -> bench.count(7));
      fails(INDEX, () -> bench.trace(2, ERROR));
    });
    test(16, "a run of 200 steps after one of one", () -> {
      LineFollowerBench bench = ran("", 13, 1, 0, 0);
      bench.set(13, 200);
      is(500, bench::run);
      is(500, () -> bench.trace(200, ERROR));
    });
    test(16, "a run with a shorter delay after one with a longer one", () -> {
      LineFollowerBench bench = ran("p0:1*99", 13, 9, 12, 7, 0, 0, 6, 5);
      bench.set(6, 1);
      bench.run();
      same("7 7 8 9 10 11 12 13 14", Due.row(bench, SEEN));
    });
  }

  /** The row of a second run is that of the first one, although that ended elsewhere. */
  private void beginsAnew(String name, String wanted, int part, int... settings) {
    row("a second run begins anew, " + name, wanted, part, () -> ran("p1:-8*1", settings));
  }

  private void leaving() {
    leavesAll(16, "the first run changes nothing else", FRESH, LineFollowerBench::run,
        "trace", "measures", "bits", "reasons");
    leavesAll(16, "another run changes nothing else", () -> {
      LineFollowerBench bench = rich();
      bench.set(12, 7);
      return bench;
    }, LineFollowerBench::run, "trace", "measures", "bits", "reasons");
  }

  private void steps() {
    refused(17, "no trace", STATE, FRESH, b -> b.trace(0, 0));
    refused(17, "no trace comes before a wrong step", STATE, FRESH, b -> b.trace(-1, 0));
    refused(17, "no trace comes before a wrong what", STATE, FRESH, b -> b.trace(0, 6));
    // the rich bench has a trace of four steps
    refused(17, "step -1", INDEX, RICH, b -> b.trace(-1, 0));
    refused(17, "step 5 of four", INDEX, RICH, b -> b.trace(5, 0));
    refused(17, "step 5 of four, another part", INDEX, RICH, b -> b.trace(5, 1));
    refused(17, "step of the least int", INDEX, RICH, b -> b.trace(MIN, 0));
    refused(17, "step of the greatest int", INDEX, RICH, b -> b.trace(MAX, 0));
    refused(17, "a step too low comes before a wrong what", INDEX, RICH, b -> b.trace(-1, -1));
    refused(17, "a step too great comes before a wrong what", INDEX, RICH, b -> b.trace(5, 6));
    Supplier<LineFollowerBench> one = () -> ran("", 13, 1);
    answers(17, "one step, step 0", 500, one, b -> b.trace(0, 0));
    answers(17, "one step, the error after it", 494, one, b -> b.trace(1, 0));
    refused(17, "one step, step 2", INDEX, one, b -> b.trace(2, 0));
    refused(17, "one step, another part after it", ARGUMENT, one, b -> b.trace(1, 1));
    Supplier<LineFollowerBench> longest = () -> ran("p199:7*1", 13, 200, 0, 0);
    answers(17, "200 steps, the last step", 500, longest, b -> b.trace(199, 0));
    answers(17, "200 steps, another part of the last step", 500, longest, b -> b.trace(199, 1));
    answers(17, "200 steps, the error after the last step", 507, longest, b -> b.trace(200, 0));
    refused(17, "200 steps, another part after the last step", ARGUMENT, longest, b -> b.trace(200, 5));
    refused(17, "200 steps, step 201", INDEX, longest, b -> b.trace(201, 0));
  }

  private void parts() {
    int[] last = {0, 500, 400, 400, 500, 1};
    for (int k = 0; k < 6; k++) {
      int what = k;
      answers(17, "part " + k + " of the only step", k == 0 ? 500 : last[k], () -> ran("", 13, 1),
          b -> b.trace(0, what));
      if (k > 0) {
        refused(17, "part " + k + " after the last step", ARGUMENT, RICH, b -> b.trace(4, what));
      }
    }
    refused(17, "what -1", ARGUMENT, RICH, b -> b.trace(0, -1));
    refused(17, "what 6", ARGUMENT, RICH, b -> b.trace(3, 6));
    refused(17, "what of the least int", ARGUMENT, RICH, b -> b.trace(0, MIN));
    refused(17, "what of the greatest int", ARGUMENT, RICH, b -> b.trace(0, MAX));
    refused(17, "what -1 after the last step", ARGUMENT, RICH, b -> b.trace(4, -1));
    refused(17, "what 6 after the last step", ARGUMENT, RICH, b -> b.trace(4, 6));
    answers(17, "a step that is not saturated", 0, () -> ran("", 13, 1, 12, 400), b -> b.trace(0, 5));
    answers(17, "a step that is saturated", 1, () -> ran("", 13, 1, 12, 401), b -> b.trace(0, 5));
    leavesAll(17, "it leaves all as it is", RICH, b -> b.trace(4, 0));
  }

  /** The trace stays until the next run. */
  private void staying() {
    stays("set of the number of steps", b -> b.set(13, 200));
    stays("set of the start", b -> b.set(12, 1));
    stays("setPoint", b -> b.setPoint(0, 0));
    stays("removePoint", b -> b.removePoint(40));
    stays("setWeight", b -> b.setWeight(0, 0));
    stays("setGrid", b -> b.setGrid(0, 0, 1, 1));
    stays("load", LineFollowerBench::load);
    stays("a refused load", b -> {
      type(b, "x");
      loadWrong(b);
      return 0;
    });
    stays("hold", LineFollowerBench::hold);
    stays("search", LineFollowerBench::search);
    stays("climb", LineFollowerBench::climb);
    stays("apply", b -> b.apply(true));
    stays("lowest", b -> b.lowest(0, Long.MAX_VALUE));
    stays("undo", LineFollowerBench::undo);
    stays("save", LineFollowerBench::save);
    stays("restore", LineFollowerBench::restore);
    test(17, "the next run replaces the trace", () -> {
      LineFollowerBench bench = rich();
      bench.set(12, 7);
      bench.set(13, 1);
      bench.run();
      is(7, () -> bench.trace(0, ERROR));
      fails(INDEX, () -> bench.trace(2, ERROR));
    });
  }

  private void stays(String name, ToLongFunction<LineFollowerBench> call) {
    test(17, "the trace stays, " + name, () -> {
      LineFollowerBench twin = rich();
      LineFollowerBench bench = rich();
      call.applyAsLong(bench);
      is(4, () -> bench.count(7));
      for (int what = 0; what < 6; what++) {
        same(Due.row(twin, what), Due.row(bench, what));
      }
    });
  }
}
