/** Promises 16 and 17: runs and their traces; the rows that are due were worked out by hand. */
public final class RunTest {
  private static final int ERROR = 0;
  private static final int SEEN = 1;
  private static final int OUTPUT = 2;
  private static final int ACTUATOR = 3;
  private static final int INTEGRAL = 4;
  private static final int SATURATED = 5;
  private static final Due due = new Due("RunTest");

  public static void main(String[] args) {
    motion();
    sensor();
    gains();
    windup();
    twoOutputs();
    byTable();
    actuator();
    limits();
    traces();
    due.end();
  }

  private static LineFollowerBench ran(String text, int... settings) {
    LineFollowerBench bench = Due.with(text, settings);
    bench.run();
    return bench;
  }

  private static void row(String what, String wanted, int part, LineFollowerBench bench) {
    due.compare("promise 16: " + what, wanted, Due.row(bench, part));
  }

  private static void motion() {
    LineFollowerBench bench = Due.with("", 13, 3);
    due.is("promise 16: the error after the last step", 464, bench::run);
    row("errors", "500 494 482 464", ERROR, bench);
    row("outputs", "400 400 400", OUTPUT, bench);
    row("saturated", "1 1 1", SATURATED, bench);
    row("the other side", "-500 -494 -482 -464", ERROR, ran("", 13, 3, 12, -500));
    row("saturated at the other side", "1 1 1", SATURATED, ran("", 13, 3, 12, -500));
    row("a bend alone", "0 1 3 6 10", ERROR, ran("b99:8", 13, 4, 12, 0, 0, 0));
    row("a bend in its steps", "0 0 -1 -3 -5", ERROR, ran("s1;b2:-8", 13, 4, 12, 0, 0, 0));
    row("pushes", "0 0 7 14 14", ERROR, ran("p1:7*2", 13, 4, 12, 0, 0, 0));
    row("heading toward zero", "5 5 5 5", ERROR, ran("b9:-2", 13, 3, 12, 5, 0, 0));
    row("actuator toward zero", "7 7 7 7", ERROR, ran("", 13, 3, 12, 7));
    row("an actuator of 8", "8 8 8 8 8 8 8 8 7", ERROR, ran("", 13, 8, 12, 8));
    row("the actuator as it is now", "500 490", ERROR, ran("", 13, 1, 0, 999, 3, 640));
    due.is("promise 16: the greatest number of steps", 500, () -> Due.with("", 13, 200, 0, 0).run());
    LineFollowerBench again = Due.with("", 13, 3);
    again.run();
    due.is("promise 16: a run begins anew", 464, again::run);
  }

  private static void sensor() {
    row("steps of the sensor", "400 400", SEEN, ran("", 13, 2, 5, 100, 12, 499));
    row("steps toward zero", "-400 -400", SEEN, ran("", 13, 2, 5, 100, 12, -499));
    row("steps of 7", "14 14", SEEN, ran("", 13, 2, 5, 7, 12, 20));
    String bend = "b99:8";
    row("no delay", "0 1 3 6 10 15 21", SEEN, ran(bend, 13, 7, 12, 0, 0, 0));
    row("delay 1", "0 0 1 3 6 10 15", SEEN, ran(bend, 13, 7, 12, 0, 0, 0, 6, 1));
    row("delay 3", "0 0 0 0 1 3 6", SEEN, ran(bend, 13, 7, 12, 0, 0, 0, 6, 3));
    row("delay 5", "0 0 0 0 0 0 1", SEEN, ran(bend, 13, 7, 12, 0, 0, 0, 6, 5));
    row("steps of 2", "0 0 2 6 10 14 20", SEEN, ran(bend, 13, 7, 12, 0, 0, 0, 5, 2));
    row("steps of 2, delay 1", "0 0 0 2 6 10 14", SEEN, ran(bend, 13, 7, 12, 0, 0, 0, 5, 2, 6, 1));
  }

  private static void gains() {
    row("proportional", "15 15", OUTPUT, ran("", 13, 2, 12, 15));
    row("proportional toward zero", "-23 -23", OUTPUT, ran("", 13, 2, 12, -15, 0, 99));
    row("integral", "2 5 8", OUTPUT, ran("", 13, 3, 12, 3, 0, 0, 1, 60));
    row("derivative", "0 1 2", OUTPUT, ran("b99:8", 13, 3, 12, 0, 0, 0, 2, 64));
    row("derivative with delay", "0 0 1 2", OUTPUT, ran("b99:8", 13, 4, 12, 0, 0, 0, 2, 64, 6, 1));
    row("no change in step 0", "0", OUTPUT, ran("", 13, 1, 0, 0, 2, 999));
    LineFollowerBench longest = ran("p198:-80*1", 13, 200, 12, 3, 0, 0, 2, 64);
    due.is("promise 16: the change in the last step", -80, () -> longest.trace(199, OUTPUT));
    row("one division for all", "1", OUTPUT, ran("", 13, 1, 12, 1, 0, 32, 1, 32));
    row("the integral sums what is seen", "3 6 9", INTEGRAL, ran("", 13, 3, 12, 3, 0, 0, 1, 60));
    row("at the limit it is not saturated", "0", SATURATED, ran("", 13, 1, 12, 400));
    row("above the limit it is", "1", SATURATED, ran("", 13, 1, 12, 401));
  }

  private static void windup() {
    row("way 0", "500 994", INTEGRAL, ran("", 13, 2));
    row("way 1", "500 700", INTEGRAL, ran("", 13, 2, 7, 1, 8, 700));
    row("way 1 at the other side", "-500 -700", INTEGRAL, ran("", 13, 2, 7, 1, 8, 700, 12, -500));
    row("way 1, before the raw output", "10", OUTPUT, ran("", 13, 1, 7, 1, 8, 10, 0, 0, 1, 64));
    row("way 1, bound 0", "0 0", INTEGRAL, ran("", 13, 2, 7, 1, 8, 0));
    row("the bound is for way 1 alone", "500 994", INTEGRAL, ran("", 13, 2, 7, 0, 8, 700));
    row("way 2 keeps", "0 0", INTEGRAL, ran("", 13, 2, 7, 2));
    row("way 2 keeps at the other side", "0 0", INTEGRAL, ran("", 13, 2, 7, 2, 12, -500));
    row("way 2 with the new one", "8", OUTPUT, ran("", 13, 1, 7, 2, 12, 4, 1, 64));
    row("way 2, not saturated", "300", INTEGRAL, ran("", 13, 1, 7, 2, 12, 300));
    row("way 2, saturated against the seen value", "2000 3500",
        INTEGRAL, ran("p0:-500*9", 13, 2, 7, 2, 12, 2000, 0, 0, 2, 999));
    row("way 2, negative against the seen value", "-2000 -3500",
        INTEGRAL, ran("p0:500*9", 13, 2, 7, 2, 12, -2000, 0, 0, 2, 999));
    row("way 2, saturated along the seen value", "2000 2000",
        INTEGRAL, ran("p0:500*9", 13, 2, 7, 2, 12, 2000, 0, 0, 2, 999));
    row("way 2, a seen value of 1", "0", INTEGRAL, ran("", 13, 1, 7, 2, 12, 1, 0, 999, 3, 1));
    row("way 2, a seen value of -1", "0", INTEGRAL, ran("", 13, 1, 7, 2, 12, -1, 0, 999, 3, 1));
    row("way 3", "-12 -23", INTEGRAL, ran("", 13, 2, 7, 3, 3, 50, 1, 8));
    row("way 3, not saturated", "300", INTEGRAL, ran("", 13, 1, 7, 3, 12, 300));
    row("way 3, factor 0", "500", INTEGRAL, ran("", 13, 1, 7, 3, 9, 0));
    row("way 3, factor 1, toward zero", "495", INTEGRAL, ran("", 13, 1, 7, 3, 9, 1, 3, 412));
    row("way 3, negative, toward zero", "-495", INTEGRAL, ran("", 13, 1, 7, 3, 9, 1, 3, 412, 12, -500));
    row("way 3, limited", "-121272 1000000",
        INTEGRAL, ran("", 13, 2, 7, 3, 9, 64, 12, 2000, 0, 0, 1, 999));
    row("way 3, limited at the other side", "121272 -1000000",
        INTEGRAL, ran("", 13, 2, 7, 3, 9, 64, 12, -2000, 0, 0, 1, 999));
  }

  private static void twoOutputs() {
    row("two outputs, above", "400", OUTPUT, ran("", 13, 1, 10, 1, 12, 51));
    row("two outputs, below", "-400", OUTPUT, ran("", 13, 1, 10, 1, 12, -51));
    row("two outputs, at the band", "0", OUTPUT, ran("", 13, 1, 10, 1, 12, 50));
    row("two outputs, at the other band", "0", OUTPUT, ran("", 13, 1, 10, 1, 12, -50));
    row("two outputs, band 0", "1000 1000", OUTPUT, ran("", 13, 2, 10, 1, 12, 126, 11, 0, 3, 1000));
    LineFollowerBench kept = ran("p0:-9*9", 13, 3, 10, 1, 12, 60);
    row("two outputs, crossing the band", "60 45 24 -3", ERROR, kept);
    row("two outputs, kept", "400 400 400", OUTPUT, kept);
    row("two outputs: the integral stays", "0 0 0", INTEGRAL, kept);
    row("two outputs: never saturated", "0 0 0", SATURATED, kept);
    LineFollowerBench slow = ran("p0:-9*9", 13, 3, 10, 1, 12, 60, 4, 8);
    row("two outputs: the output is kept, not the actuator", "400 400 400", OUTPUT, slow);
    row("two outputs: the actuator goes on", "8 16 24", ACTUATOR, slow);
    LineFollowerBench again = Due.with("", 13, 1, 10, 1, 12, 51);
    again.run();
    again.set(12, 50);
    again.run();
    row("two outputs: 0 at first in each run", "0", OUTPUT, again);
  }

  private static void byTable() {
    row("an empty table", "0 0", OUTPUT, ran("", 13, 2, 10, 2));
    LineFollowerBench bench = Due.with("", 13, 1, 10, 2, 12, 30, 1, 999, 7, 3);
    bench.setPoint(0, 0);
    bench.setPoint(100, 1000);
    bench.run();
    row("by a table", "300", OUTPUT, bench);
    row("by a table, not saturated", "0", SATURATED, bench);
    bench.set(3, 299);
    bench.run();
    row("by a table, limited", "299", OUTPUT, bench);
    row("by a table, saturated", "1", SATURATED, bench);
    row("by a table: the integral stays", "0", INTEGRAL, bench);
    bench.set(12, -1);
    bench.removePoint(0);
    bench.setPoint(0, -999);
    bench.run();
    row("by the table of now", "-299", OUTPUT, bench);
  }

  private static void actuator() {
    row("by the greatest change", "20 40 50 50", ACTUATOR, ran("", 13, 4, 4, 20, 3, 50));
    row("to the other side", "-20 -40 -50 -50", ACTUATOR, ran("", 13, 4, 4, 20, 3, 50, 12, -500));
    row("just the greatest change", "50 50", ACTUATOR, ran("", 13, 2, 4, 50, 3, 50));
    row("one less", "49 50", ACTUATOR, ran("", 13, 2, 4, 49, 3, 50));
    row("down", "25 0 -25 -30", ACTUATOR, ran("p0:-100*1", 13, 4, 10, 1, 12, 40, 11, 0, 3, 30, 4, 25));
  }

  private static void limits() {
    String up = "p0:500*99;p0:500*99;p0:500*99;p0:500*99";
    String down = "p0:-500*99;p0:-500*99;p0:-500*99;p0:-500*99";
    row("the error", "0 2000 4000 6000 8000 10000 10000", ERROR, ran(up, 13, 6, 12, 0, 0, 0));
    row("the error", "0 -2000 -4000 -6000 -8000 -10000 -10000", ERROR, ran(down, 13, 6, 12, 0, 0, 0));
    due.is("promise 16: the heading is limited", 8787,
        () -> Due.with(down, 13, 200, 12, -2000, 3, 1000).run());
    due.is("promise 16: the heading is limited", -8787,
        () -> Due.with(up, 13, 200, 12, 2000, 3, 1000).run());
    LineFollowerBench high = ran(up, 13, 200, 12, 2000, 0, 0);
    due.is("promise 16: the integral is limited", 1000000, () -> high.trace(199, 4));
    LineFollowerBench low = ran(down, 13, 200, 12, -2000, 0, 0);
    due.is("promise 16: the integral is limited", -1000000, () -> low.trace(199, 4));
  }

  private static void traces() {
    LineFollowerBench bench = Due.with("", 13, 2);
    due.fails("promise 17: no trace", IllegalStateException.class, () -> bench.trace(-1, 9));
    bench.run();
    due.fails("promise 17: step -1", IndexOutOfBoundsException.class, () -> bench.trace(-1, 9));
    due.fails("promise 17: step 3", IndexOutOfBoundsException.class, () -> bench.trace(3, 0));
    due.fails("promise 17: what 6", IllegalArgumentException.class, () -> bench.trace(0, 6));
    due.fails("promise 17: what -1", IllegalArgumentException.class, () -> bench.trace(2, -1));
    for (int what = 1; what < 6; what++) {
      int part = what;
      due.fails("promise 17: behind the last step", IllegalArgumentException.class, () -> bench.trace(2, part));
    }
    bench.set(13, 200);
    bench.set(12, 77);
    bench.set(4, 300);
    due.fails("promise 17: its own number of steps", IndexOutOfBoundsException.class, () -> bench.trace(3, 0));
    due.compare("promise 17: the trace stays", "500 494 482", Due.row(bench, ERROR));
    bench.search();
    bench.climb();
    bench.lowest(0, 1000000000L);
    bench.undo();
    due.compare("promise 17: until the next run", "500 494 482", Due.row(bench, ERROR));
    bench.set(13, 3);
    bench.set(5, 4);
    bench.set(6, 1);
    bench.set(1, 1);
    bench.set(12, 500);
    bench.set(3, 450);
    bench.set(4, 400);
    bench.run();
    due.compare("promise 17: error", "500 494 481 461", Due.row(bench, 0));
    due.compare("promise 17: seen value", "500 500 492", Due.row(bench, 1));
    due.compare("promise 17: output", "450 450 450", Due.row(bench, 2));
    due.compare("promise 17: actuator", "400 450 450", Due.row(bench, 3));
    due.compare("promise 17: integral", "500 1000 1492", Due.row(bench, 4));
    due.compare("promise 17: saturated", "1 1 1", Due.row(bench, 5));
    due.is("promise 17: the last step", 450, () -> bench.trace(2, 2));
  }
}
