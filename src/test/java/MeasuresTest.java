/** Promises 18 to 22: measures, cost, reason and the shares as bits. */
public final class MeasuresTest {
  private static final Due due = new Due("MeasuresTest");

  public static void main(String[] args) {
    measures();
    longest();
    settling();
    signs();
    cost();
    reason();
    bits();
    withoutTrace();
    due.end();
  }

  private static LineFollowerBench ran(String text, int... settings) {
    LineFollowerBench bench = Due.with(text, settings);
    bench.run();
    return bench;
  }

  private static void measures(String what, int[] wanted, LineFollowerBench bench) {
    for (int k = 0; k < wanted.length; k++) {
      int number = k;
      due.is("promise 18: measure " + k + ", " + what, wanted[k], () -> bench.measure(number));
    }
  }

  private static void measures() {
    measures("default", new int[] {1940, 494, 0, -1, 0, 3, 400, 464}, ran("", 13, 3));
    // errors 5 -25 -18 12, all actuators 0
    String pushed = "p0:-30*1;p1:7*1;p2:30*1";
    measures("pushed", new int[] {60, 25, 25, 2, 2, 0, 0, 12}, ran(pushed, 13, 3, 12, 5, 0, 0));
    // errors 0 -30 -23 7
    measures("from 0", new int[] {60, 30, 0, 3, 1, 0, 0, 7}, ran(pushed, 13, 3, 12, 0, 0, 0));
    // errors -3 3 0 -9
    measures("from below", new int[] {15, 9, 3, 0, 1, 0, 0, -9},
        ran("p0:6*1;p1:-3*1;p2:-9*1", 13, 3, 12, -3, 0, 0));
    // errors 40 -60 .., actuators 25 0 -25 -30
    LineFollowerBench bench = ran("p0:-100*1", 13, 4, 10, 1, 12, 40, 11, 0, 3, 30, 4, 25);
    due.is("promise 18: changes of the actuator", 80, () -> bench.measure(6));
    for (int wrong : new int[] {-1, 8, Integer.MIN_VALUE, Integer.MAX_VALUE}) {
      due.fails("promise 18: measure " + wrong, IllegalArgumentException.class, () -> bench.measure(wrong));
    }
    due.is("promise 18: the greatest but the first", 5, () -> ran("p0:-495*9", 13, 1, 0, 0).measure(1));
  }

  /** Runs of 200 steps in which only a disturbance at the end makes the error other than 3. */
  private static void longest() {
    LineFollowerBench bench = ran("p199:-8*1", 13, 200, 12, 3, 0, 0, 2, 64, 14, 4);
    measures("200 steps", new int[] {605, 5, 5, -1, 1, 0, 0, -5}, bench);
    due.is("promise 21: 200 steps", Double.doubleToLongBits((200 * 9.0 + 25.0) / 201.0), bench::meanSquareBits);
    LineFollowerBench moved = ran("p198:-80*1", 13, 200, 12, 3, 0, 0, 2, 640);
    measures("200 steps, moved", new int[] {745, 77, 77, -1, 1, 1, 400, -71}, moved);
    due.is("promise 20: the last step", 2, () -> moved.reason(199));
    due.is("promise 20: the step before", -1, () -> moved.reason(198));
    moved.set(13, 3);
    moved.run();
    measures("3 steps after 200", new int[] {12, 3, 0, 0, 0, 0, 0, 3}, moved);
    due.is("promise 21: 3 steps after 200", Double.doubleToLongBits(9.0), moved::meanSquareBits);
    due.is("promise 22: 3 steps after 200", 0, moved::saturatedBits);
    LineFollowerBench shorter = ran("p1:-500*1", 13, 100);
    shorter.set(13, 3);
    shorter.set(2, 0);
    shorter.run();
    measures("3 steps after 100", new int[] {1042, 494, 30, -1, 1, 2, 818, -30}, shorter);
    measures("nothing", new int[] {0, 0, 0, 0, 0, 0, 0, 0}, ran("", 12, 0));
  }

  private static void settling() {
    // errors 30 20 20 50
    LineFollowerBench bench = ran("p0:-10*1;p2:30*1", 13, 3, 12, 30, 0, 0);
    int[][] bands = {{20, -1}, {49, -1}, {50, 0}, {1000, 0}, {0, -1}};
    for (int[] band : bands) {
      bench.set(14, band[0]);
      due.is("promise 18: settling with the band of now, " + band[0], band[1], () -> bench.measure(3));
    }
    // errors 30 20 -20 -21 20
    LineFollowerBench other = ran("p0:-10*1;p1:-40*1;p2:-1*1;p3:41*1", 13, 4, 12, 30, 0, 0);
    int[][] others = {{19, -1}, {20, 4}, {21, 1}, {29, 1}, {30, 0}};
    for (int[] band : others) {
      other.set(14, band[0]);
      due.is("promise 18: settling, " + band[0], band[1], () -> other.measure(3));
    }
  }

  private static void signs() {
    // errors 3 0 -3 0 3 -3
    LineFollowerBench bench = ran("p0:-3*2;p2:3*2;p4:-6*1", 13, 5, 12, 3, 0, 0);
    due.compare("promise 18: errors", "3 0 -3 0 3 -3", Due.row(bench, 0));
    due.is("promise 18: 0 has no sign", 1, () -> bench.measure(4));
    due.is("promise 18: overshoot", 3, () -> bench.measure(2));
    // errors 1 -1 1
    LineFollowerBench least = ran("p0:-2*1;p1:2*1", 13, 2, 12, 1, 0, 0);
    due.is("promise 18: signs of 1 and -1", 2, () -> least.measure(4));
    due.is("promise 18: overshoot of -1", 1, () -> least.measure(2));
    due.is("promise 18: overshoot of 1", 1, () -> ran("p0:2*1", 13, 1, 12, -1, 0, 0).measure(2));
    due.is("promise 18: overshoot to above", 8, () -> ran("p0:16*1;p1:-1*1", 13, 2, 12, -8, 0, 0).measure(2));
  }

  private static void cost() {
    // errors 40 -60 -57 .., so that every part differs
    LineFollowerBench bench = ran("p0:-100*1", 13, 4, 12, 40, 3, 30, 4, 25);
    int[] parts = new int[5];
    int[] numbers = {0, 2, 5, 6, 3};
    for (int k = 0; k < 5; k++) {
      parts[k] = bench.measure(numbers[k]);
    }
    parts[4] = 1000;
    due.is("promise 18: no settling here", -1, () -> bench.measure(3));
    due.is("promise 19: the first weights", parts[0] + parts[1], bench::cost);
    for (int k = 0; k < 5; k++) {
      bench.setWeight(k, 0);
    }
    due.is("promise 19: no weights", 0, bench::cost);
    long sum = 0;
    for (int k = 0; k < 5; k++) {
      bench.setWeight(k, k * 20 + 3);
      sum += parts[k] * (k * 20L + 3);
      due.is("promise 19: up to part " + k, sum, bench::cost);
    }
    bench.set(14, 1000);
    sum -= 1000 * 83;
    due.is("promise 19: settled at once, with the band of now", sum, bench::cost);
    LineFollowerBench late = ran("p0:-25*1", 13, 4, 12, 30, 0, 0);
    late.setWeight(0, 0);
    late.setWeight(1, 0);
    late.setWeight(4, 99);
    due.is("promise 19: settled in step 1", 99, late::cost);
  }

  private static void reason() {
    LineFollowerBench bench = ran("b99:8", 13, 4, 12, 0, 0, 0);
    // seen 0 1 3 6, changes 0 1 2 3, integrals 0 1 4 10
    int[][] cases = {{1, 0, 0, -1, 0, 0, 0}, {0, 1, 0, -1, 1, 1, 1}, {0, 0, 1, -1, 2, 2, 2},
      {1, 1, 1, -1, 0, 1, 1}, {5, 3, 7, -1, 2, 0, 0}, {4, 3, 6, -1, 2, 0, 1}, {2, 0, 3, -1, 2, 0, 0},
      {0, 2, 4, -1, 2, 1, 1}, {0, 0, 0, -1, -1, -1, -1}};
    for (int[] row : cases) {
      for (int gain = 0; gain < 3; gain++) {
        bench.set(gain, row[gain]);
      }
      for (int t = 0; t < 4; t++) {
        int step = t;
        due.is("promise 20: gains " + row[0] + " " + row[1] + " " + row[2] + ", step " + t, row[3 + t],
            () -> bench.reason(step));
      }
    }
    due.fails("promise 20: step 4", IndexOutOfBoundsException.class, () -> bench.reason(4));
    due.fails("promise 20: step -1", IndexOutOfBoundsException.class, () -> bench.reason(-1));
    LineFollowerBench other = ran("b99:-8", 13, 4, 12, 0, 10, 1);
    due.is("promise 20: other controllers", 0, () -> other.reason(2));
    other.set(2, 999);
    due.is("promise 20: amounts", 2, () -> other.reason(2));
    LineFollowerBench kept = ran("", 13, 2, 7, 2, 1, 64);
    due.is("promise 20: the integral as in the trace", 0, () -> kept.reason(1));
  }

  private static void bits() {
    LineFollowerBench bench = ran("", 13, 3);
    double square = (250000.0 + 244036.0 + 232324.0 + 215296.0) / 4.0;
    due.is("promise 21: four errors", Double.doubleToLongBits(square), bench::meanSquareBits);
    due.is("promise 21: zero", 0L, ran("", 12, 0)::meanSquareBits);
    for (int start : new int[] {1, -1, 2, 3, 1999, -2000}) {
      due.is("promise 21: always " + start, Double.doubleToLongBits((double) start * start),
          ran("", 12, start, 0, 0)::meanSquareBits);
    }
    for (int steps = 1; steps <= 200; steps++) {
      LineFollowerBench one = ran("p0:-1*1", 13, steps, 12, 1, 0, 0);
      due.is("promise 21: one of " + (steps + 1), Double.doubleToLongBits(1.0 / (steps + 1)),
          one::meanSquareBits);
    }
    due.is("promise 22: all", Float.floatToIntBits(1.0f), bench::saturatedBits);
    due.is("promise 22: none", Float.floatToIntBits(0.0f), ran("", 12, 0)::saturatedBits);
    for (int steps = 1; steps <= 200; steps++) {
      LineFollowerBench one = ran("p0:-401*1", 13, steps, 12, 401);
      due.is("promise 22: " + one.measure(5) + " of " + steps,
          Float.floatToIntBits((float) one.measure(5) / (float) steps), one::saturatedBits);
    }
  }

  private static void withoutTrace() {
    LineFollowerBench bench = new LineFollowerBench();
    due.fails("promise 18: no trace", IllegalStateException.class, () -> bench.measure(8));
    due.fails("promise 19: no trace", IllegalStateException.class, bench::cost);
    due.fails("promise 20: no trace", IllegalStateException.class, () -> bench.reason(-1));
    due.fails("promise 21: no trace", IllegalStateException.class, bench::meanSquareBits);
    due.fails("promise 22: no trace", IllegalStateException.class, bench::saturatedBits);
    bench.search();
    bench.climb();
    bench.lowest(0, 1000000000L);
    due.fails("promise 19: tuning leaves no trace", IllegalStateException.class, bench::cost);
  }
}
