/** The sentences of the document's "Description", in their order; rows of runs were worked out beside the class. */
public final class DescriptionSentencesTest extends Sentences {
  private static final int ERROR = 0;
  private static final int SEEN = 1;
  private static final int OUTPUT = 2;
  private static final int ACTUATOR = 3;
  private static final int INTEGRAL = 4;
  private static final int SATURATED = 5;

  public static void main(String[] args) {
    new DescriptionSentencesTest().all();
  }

  @Override
  void sentences() {
    calls();
    settings();
    segments();
    disturbances();
    runs();
    controllerByGains();
    otherControllers();
    tables();
    traces();
    measures();
    cost();
    grid();
    texts();
    errorPositions();
    changes();
  }

  private void calls() {
    sentence("A method that throws an exception leaves the state unchanged", bench -> {
      bench.setPoint(3, 4);
      fails(INDEX, () -> bench.set(-1, 5));
      fails(ARGUMENT, () -> bench.setPoint(3, 1001));
      fails(ELEMENT, () -> bench.removePoint(4));
      fails(ARGUMENT, () -> bench.setGrid(0, 0, 200, 6));
      fails(INDEX, () -> bench.setWeight(5, 1));
      is(4, () -> bench.point(0, 1));
      is(27, () -> bench.count(3));
      is(1, () -> bench.setWeight(0, 1));
    });
    sentence("If several exceptions are possible, the one listed first .. is thrown", bench -> {
      for (int place = 0; place < 5; place++) {
        bench.setPoint(place, 0);
      }
      Boundary.type(bench, "12345678901234567890123456789012345678901234567890");
      bench.run();
      fails(INDEX, () -> bench.set(15, -1));
      fails(ARGUMENT, () -> bench.setPoint(10001, 0));
      fails(ELEMENT, () -> bench.point(5, 2));
      fails(INDEX, () -> bench.setWeight(-1, 100));
      fails(INDEX, () -> bench.setGrid(3, -1, 0, 7));
      fails(ARGUMENT, () -> bench.append('s' << 8 | 32));
      fails(INDEX, () -> bench.trace(61, 6));
      fails(INDEX, () -> bench.lowest(4, -1));
    });
    sentence("All divisions of whole numbers are truncated toward zero", bench -> {
      set(bench, 5, 10, 12, -57, 13, 1, 0, 3);
      row(bench, SEEN, "-50");
      row(bench, OUTPUT, "-2");
      load(bench, "r4:-9");
      is(-6, () -> bench.curvature(3));
      bench.setPoint(0, 0);
      bench.setPoint(4, -3);
      is(-2, () -> bench.table(3));
    });
    sentence("To limit a number to a bound b means to replace it by b if it is greater, and by -b if it is less ..",
        bench -> {
          set(bench, 3, 90, 12, 90, 13, 1);
          row(bench, OUTPUT, "90");
          bench.set(12, 91);
          row(bench, OUTPUT, "90");
          bench.set(12, -91);
          row(bench, OUTPUT, "-90");
          bench.set(12, -89);
          row(bench, OUTPUT, "-89");
        });
  }

  private void settings() {
    setting(0, "proportional gain, 0 to 999, 64", 0, 999, 64);
    setting(1, "integral gain, 0 to 999, 0", 0, 999, 0);
    setting(2, "derivative gain, 0 to 999, 0", 0, 999, 0);
    setting(3, "limit, 1 to 1000, 400", 1, 1000, 400);
    setting(4, "greatest change, 1 to 1000, 1000", 1, 1000, 1000);
    setting(5, "sensor step, 1 to 100, 1", 1, 100, 1);
    setting(6, "delay, 0 to 5, 0", 0, 5, 0);
    setting(7, "way against windup, 0 to 3, 0", 0, 3, 0);
    setting(8, "integral bound, 0 to 100000, 10000", 0, 100000, 10000);
    setting(9, "back factor, 0 to 64, 16", 0, 64, 16);
    setting(10, "controller, 0 to 2, 0", 0, 2, 0);
    setting(11, "dead band, 0 to 1000, 50", 0, 1000, 50);
    setting(12, "start, -2000 to 2000, 500", -2000, 2000, 500);
    setting(13, "number of steps, 1 to 200, 60", 1, 200, 60);
    setting(14, "band, 0 to 1000, 20", 0, 1000, 20);
  }

  private void setting(int number, String words, int least, int most, int atFirst) {
    sentence(number + " " + words, bench -> {
      is(atFirst, () -> bench.setting(number));
      fails(ARGUMENT, () -> bench.set(number, least - 1));
      fails(ARGUMENT, () -> bench.set(number, most + 1));
      is(atFirst, () -> bench.set(number, least));
      is(least, () -> bench.set(number, most));
      is(most, () -> bench.setting(number));
      bench.undo();
      bench.undo();
      is(atFirst, () -> bench.setting(number));
    });
  }

  private void segments() {
    sentence("The track consists of at most 8 segments, one after the other", bench -> {
      load(bench, "b1:1;b1:2;b1:3;b1:4;b1:5;b1:6;b1:7;b1:8");
      is(8, () -> bench.count(0));
      for (int step = 0; step < 8; step++) {
        int at = step;
        is(step + 1, () -> bench.curvature(at));
      }
      wrong(bench, "b1:1;b1:2;b1:3;b1:4;b1:5;b1:6;b1:7;b1:8;s1", 40);
      is(8, () -> bench.count(0));
    });
    sentence("A segment has a kind, a length from 1 to 99 and a curvature from -50 to 50", bench -> {
      load(bench, "b1:-50;b99:50");
      is(-50, () -> bench.curvature(0));
      is(50, () -> bench.curvature(1));
      is(50, () -> bench.curvature(99));
      is(0, () -> bench.curvature(100));
    });
    sentence("kind 0, straight, .. is 0; of kind 1, bend, it is the curvature of the segment; of kind 2, ramp, .. "
        + "curvature * k / length. Behind the last segment it is 0", bench -> {
          load(bench, "s2;b2:-7;r4:-9");
          int[] curvatures = {0, 0, -7, -7, 0, -2, -4, -6, 0, 0};
          for (int step = 0; step < curvatures.length; step++) {
            int at = step;
            is(curvatures[step], () -> bench.curvature(at));
          }
          is(0, () -> bench.curvature(199));
        });
  }

  private void disturbances() {
    sentence("A disturbance has a first step from 0 to 199, a value from -500 to 500 and a length from 1 to 99",
        bench -> {
          load(bench, "p0:-500*99;p199:500*1;p199:-1*99");
          is(-500, () -> bench.push(0));
          is(-500, () -> bench.push(98));
          is(0, () -> bench.push(99));
          is(0, () -> bench.push(198));
          is(499, () -> bench.push(199));
        });
    sentence("it acts in the step number of its first step and in the following ones, as many as its length says",
        bench -> {
          load(bench, "p2:5*3");
          is(0, () -> bench.push(1));
          is(5, () -> bench.push(2));
          is(5, () -> bench.push(4));
          is(0, () -> bench.push(5));
        });
    sentence("There are at most 4 disturbances. The push of a step is the sum of the values of the disturbances that "
        + "act in it", bench -> {
          load(bench, "p1:1*4;p2:10*3;p3:100*2;p4:-500*1");
          is(4, () -> bench.count(1));
          int[] pushes = {0, 1, 11, 111, -389, 0};
          for (int step = 0; step < pushes.length; step++) {
            int at = step;
            is(pushes[step], () -> bench.push(at));
          }
          wrong(bench, "p1:1*4;p2:10*3;p3:100*2;p4:-500*1;p5:1*1", 34);
          is(-389, () -> bench.push(4));
        });
  }

  private void runs() {
    sentence("A run begins with the error e = start, the heading h = 0, the actuator a = 0, the integral i = 0 and the "
        + "output 0", bench -> {
          for (int times = 0; times < 2; times++) {
            set(bench, 1, 3, 2, 20, 3, 150, 4, 60, 12, 90, 13, 2, 10, 0);
            row(bench, ERROR, "90 90 88");
            row(bench, ACTUATOR, "60 98");
            row(bench, INTEGRAL, "90 180");
            set(bench, 10, 1, 12, 7);
            row(bench, OUTPUT, "0 0");
          }
        });
    sentence("the measured value is m(t) = (e / sensor step) * sensor step", bench -> {
      set(bench, 0, 0, 5, 10, 12, 57, 13, 3);
      load(bench, "p0:-60*1;p1:-20*1");
      row(bench, ERROR, "57 -3 -23 -23");
      row(bench, SEEN, "50 0 -20");
    });
    sentence("The seen value s(t) is m(t - delay), or m(0) if t is less than the delay", bench -> {
      set(bench, 0, 0, 6, 2, 12, 9, 13, 5);
      load(bench, "p0:1*1;p1:2*1;p2:3*1;p3:4*1");
      row(bench, ERROR, "9 10 12 15 19 19");
      row(bench, SEEN, "9 9 9 10 12");
    });
    sentence("The change d is s(t) - s(t - 1), and 0 for t = 0", bench -> {
      set(bench, 0, 0, 2, 64, 12, 100, 13, 3);
      load(bench, "p0:-30*1;p1:5*1");
      row(bench, SEEN, "100 70 75");
      row(bench, OUTPUT, "0 -30 5");
    });
    sentence("the output is the raw output, limited to the limit; the step is saturated if both are different",
        bench -> {
          set(bench, 0, 64, 3, 40, 12, 40, 13, 1);
          row(bench, OUTPUT, "40");
          row(bench, SATURATED, "0");
          bench.set(12, -41);
          row(bench, OUTPUT, "-40");
          row(bench, SATURATED, "1");
        });
    sentence("the actuator a becomes the output if this differs from it by at most the greatest change, otherwise it "
        + "moves toward it by the greatest change", bench -> {
          set(bench, 4, 30, 12, 75, 13, 4);
          row(bench, OUTPUT, "75 75 74 72");
          row(bench, ACTUATOR, "30 60 74 72");
          bench.set(12, -30);
          row(bench, ACTUATOR, "-30 -30 -30 -29");
        });
    sentence("h becomes h plus the curvature of the step minus a / 8, with the actuator as it is now, limited to "
        + "10000; then e becomes e + h / 8 plus the push of the step, limited to 10000", bench -> {
          set(bench, 0, 64, 12, 100, 13, 2);
          load(bench, "s1;b1:50;p1:7*1");
          row(bench, ACTUATOR, "100 99");
          row(bench, ERROR, "100 99 109");
          set(bench, 3, 1000, 12, -2000, 13, 100);
          load(bench, "p0:-500*99;p0:-500*99;p0:-500*99;p0:-500*99");
          bench.run();
          is(-10000, () -> bench.trace(99, ERROR));
          is(-8750, () -> bench.trace(100, ERROR));
        });
  }

  private void controllerByGains() {
    sentence("j is i + s(t), limited to 1000000", bench -> {
      set(bench, 0, 0, 12, 2000, 13, 200);
      load(bench, "p0:500*16");
      bench.run();
      is(2000, () -> bench.trace(0, INTEGRAL));
      is(1000000, () -> bench.trace(199, INTEGRAL));
    });
    sentence("the raw output is (proportional gain * s(t) + integral gain * j + derivative gain * d) / 64", bench -> {
      set(bench, 0, 1, 1, 1, 2, 1, 12, 32, 13, 1);
      row(bench, OUTPUT, "1");
      bench.set(12, 31);
      row(bench, OUTPUT, "0");
      set(bench, 0, 0, 1, 0, 2, 640, 12, 100, 13, 2);
      load(bench, "p0:-50*1");
      row(bench, OUTPUT, "0 -400");
    });
    sentence("The new integral is j", bench -> {
      windup(bench, 0);
      row(bench, INTEGRAL, "100 200 299 396");
      row(bench, SATURATED, "1 1 1 1");
    });
    sentence("in way 1 against windup, then limited to the integral bound", bench -> {
      windup(bench, 1);
      row(bench, INTEGRAL, "100 150 150 150");
    });
    sentence("in way 2, it is i if the step is saturated and the raw output and s(t) are both positive or ..",
        bench -> {
          windup(bench, 2);
          row(bench, INTEGRAL, "0 0 0 0");
          bench.set(12, -100);
          row(bench, INTEGRAL, "0 0 0 0");
          set(bench, 0, 0, 1, 0, 2, 640, 12, 100, 13, 2);
          load(bench, "p0:-50*1");
          row(bench, SATURATED, "0 1");
          row(bench, INTEGRAL, "100 150");
        });
    sentence("in way 3, it is j - (raw output - output) * back factor / 16, limited to 1000000", bench -> {
      windup(bench, 3);
      row(bench, SEEN, "100 100 99 97");
      row(bench, INTEGRAL, "-53 -56 -54 -51");
      set(bench, 0, 999, 1, 0, 3, 400, 9, 64, 12, 2000, 13, 10);
      row(bench, INTEGRAL, "-121272 -242178 -362344 -481404 -598929 -714549 -827898 -938602 -1000000 -1000000");
    });
  }

  private static void windup(LineFollowerBench bench, int way) {
    set(bench, 1, 40, 3, 60, 7, way, 8, 150, 9, 24, 12, 100, 13, 4);
  }

  private void otherControllers() {
    sentence("the raw output is the limit if s(t) is greater than the dead band, minus the limit if it is less than "
        + "minus the dead band, and otherwise the output of the step before, 0 at first; the integral stays", bench -> {
          set(bench, 3, 300, 10, 1, 11, 46, 12, 50, 13, 6);
          load(bench, "p1:-60*1;p3:-100*1;p4:70*1");
          row(bench, SEEN, "50 46 -23 -36 -154 -97");
          row(bench, OUTPUT, "300 300 300 300 -300 -300");
          row(bench, SATURATED, "0 0 0 0 0 0");
          row(bench, INTEGRAL, "0 0 0 0 0 0");
          bench.set(12, 46);
          bench.run();
          is(0, () -> bench.trace(0, OUTPUT));
          bench.set(12, -47);
          bench.run();
          is(-300, () -> bench.trace(0, OUTPUT));
        });
    sentence("the raw output is found from the points of the table .., and 0 if it has none; the integral stays",
        bench -> {
          set(bench, 3, 120, 7, 3, 9, 64, 10, 2, 12, 50, 13, 4);
          load(bench, "p1:-60*1;p2:-90*2");
          row(bench, OUTPUT, "0 0 0 0");
          threePoints(bench);
          row(bench, ERROR, "50 49 -14 -106 -196");
          row(bench, OUTPUT, "100 100 -20 -120");
          row(bench, SATURATED, "0 0 0 1");
          row(bench, INTEGRAL, "0 0 0 0");
        });
    sentence("At or before the first point, it is the value of this point, at or behind the last one, the value of "
        + "that one; between two .. it is y + (v - y) * (s(t) - x) / (u - x)", bench -> {
          is(0, () -> bench.table(5));
          threePoints(bench);
          int[][] outputs = {{-10000, -200}, {-101, -200}, {-100, -200}, {-99, -198}, {-1, 7}, {0, 10}, {1, 13},
            {29, 97}, {30, 100}, {31, 100}, {10000, 100}};
          for (int[] pair : outputs) {
            is(pair[1], () -> bench.table(pair[0]));
          }
        });
  }

  private static void threePoints(LineFollowerBench bench) {
    bench.setPoint(30, 100);
    bench.setPoint(-100, -200);
    bench.setPoint(0, 10);
  }

  private void tables() {
    sentence("The table has at most 5 points with different places from -10000 to 10000 and values from -1000 to 1000, "
        + "ordered by their places", bench -> {
          int[][] points = {{7, -1000}, {-10000, 1}, {10000, 2}, {-7, 1000}, {0, 3}};
          for (int k = 0; k < 5; k++) {
            int[] point = points[k];
            is(k + 1, () -> bench.setPoint(point[0], point[1]));
          }
          same("-10000=1 -7=1000 0=3 7=-1000 10000=2", Boundary.points(bench));
          fails(STATE, () -> bench.setPoint(1, 0));
          is(5, () -> bench.setPoint(0, -4));
          fails(ARGUMENT, () -> bench.setPoint(-10001, 0));
          fails(ARGUMENT, () -> bench.setPoint(0, 1001));
          same("-10000=1 -7=1000 0=-4 7=-1000 10000=2", Boundary.points(bench));
        });
  }

  /** A run of six steps, in which each part of the trace changes. */
  private static void richRun(LineFollowerBench bench) {
    set(bench, 0, 64, 1, 3, 2, 20, 3, 150, 4, 60, 5, 4, 6, 1, 10, 0, 12, 90, 13, 6, 14, 30);
    load(bench, "s1;b2:20;r3:-30;p1:40*1");
    bench.run();
  }

  private void richRows(LineFollowerBench bench) {
    is(6, () -> bench.count(7));
    same("90 90 130 131 130 126 117", Due.row(bench, ERROR));
    same("88 88 88 128 128 128", Due.row(bench, SEEN));
    same("92 96 100 150 150 150", Due.row(bench, OUTPUT));
    same("60 96 100 150 150 150", Due.row(bench, ACTUATOR));
    same("88 176 264 392 520 648", Due.row(bench, INTEGRAL));
    same("0 0 0 1 1 1", Due.row(bench, SATURATED));
  }

  private void traces() {
    sentence("A run leaves a trace, which has, for each step, the error before the step, and besides the seen value, "
        + "the output, the actuator and the integral after the step, and whether it is saturated; and the error after "
        + "the last step", bench -> {
          richRun(bench);
          richRows(bench);
        });
    sentence("The trace stays until the next run", bench -> {
      richRun(bench);
      bench.hold();
      bench.save();
      set(bench, 0, 9, 13, 200, 10, 1);
      fails(INDEX, () -> bench.trace(7, ERROR));
      bench.undo();
      bench.restore();
      bench.setGrid(1, 5, 5, 2);
      set(bench, 12, -70, 13, 9);
      Due.Call[] calls = {bench::search, bench::climb, () -> bench.apply(true), () -> bench.lowest(3, Long.MAX_VALUE),
        bench::hold, bench::save, bench::undo};
      for (Due.Call call : calls) {
        call.answer();
        richRows(bench);
      }
      fails(ELEMENT, () -> bench.lowest(3, -1));
      load(bench, "s9");
      richRows(bench);
      set(bench, 0, 0, 1, 0, 2, 0, 13, 2, 12, 3);
      row(bench, ERROR, "3 3 3");
      is(2, () -> bench.count(7));
      fails(INDEX, () -> bench.trace(3, ERROR));
    });
  }

  /** A run of two outputs with the errors 50 46 -23 -27 -127 -53 -44. */
  private void crossingRun(LineFollowerBench bench) {
    set(bench, 3, 300, 4, 1000, 5, 1, 6, 0, 10, 1, 11, 20, 12, 50, 13, 6, 14, 60);
    load(bench, "p1:-60*1;p3:-100*1;p4:70*1");
    row(bench, ERROR, "50 46 -23 -27 -127 -53 -44");
  }

  /** A run without gains, so that its errors are the start and the sums of the pushes. */
  private void pushedRun(LineFollowerBench bench, int start, String text, int steps, String errors) {
    set(bench, 0, 0, 1, 0, 2, 0, 10, 0, 12, start, 13, steps);
    load(bench, text);
    row(bench, ERROR, errors);
  }

  private void measures() {
    sentence("0 the sum of the amounts of all errors", bench -> {
      crossingRun(bench);
      is(370, () -> bench.measure(0));
    });
    sentence("1 the greatest amount of an error but E(0)", bench -> {
      crossingRun(bench);
      is(127, () -> bench.measure(1));
      pushedRun(bench, 90, "p0:-50*1", 2, "90 40 40");
      is(40, () -> bench.measure(1));
    });
    sentence("2 the overshoot: the greatest amount of all errors whose sign is opposite to that of E(0), or 0 if there "
        + "is none or E(0) is 0", bench -> {
          crossingRun(bench);
          is(127, () -> bench.measure(2));
          pushedRun(bench, -9, "p0:-50*1;p1:63*1", 2, "-9 -59 4");
          is(4, () -> bench.measure(2));
          pushedRun(bench, 9, "p0:50*1;p1:-59*1", 2, "9 59 0");
          is(0, () -> bench.measure(2));
          pushedRun(bench, 0, "p0:-50*1;p1:63*1", 2, "0 -50 13");
          is(0, () -> bench.measure(2));
        });
    sentence("3 the settling step: the least t from 0 to N such that the amounts of E(t) to E(N) are at most the band, "
        + "or -1 if there is none", bench -> {
          crossingRun(bench);
          int[][] settlings = {{43, -1}, {44, 6}, {52, 6}, {53, 5}, {126, 5}, {127, 0}, {1000, 0}};
          for (int[] pair : settlings) {
            bench.set(14, pair[0]);
            is(pair[1], () -> bench.measure(3));
          }
        });
    sentence("4 the number of t from 0 to N - 1 for which one of E(t) and E(t + 1) is positive and the other one ..",
        bench -> {
          crossingRun(bench);
          is(1, () -> bench.measure(4));
          pushedRun(bench, 5, "p0:-5*1;p1:-5*1;p2:10*1;p3:-6*1", 4, "5 0 -5 5 -1");
          is(2, () -> bench.measure(4));
        });
    sentence("5 the number of saturated steps; 6 the sum of the amounts of all changes of the actuator, which is 0 "
        + "before the first step; 7 E(N)", bench -> {
          richRun(bench);
          is(3, () -> bench.measure(5));
          is(150, () -> bench.measure(6));
          is(117, () -> bench.measure(7));
          crossingRun(bench);
          is(0, () -> bench.measure(5));
          is(900, () -> bench.measure(6));
          is(-44, () -> bench.measure(7));
          set(bench, 1, 0, 2, 0, 4, 30, 10, 0, 12, -75, 13, 3);
          load(bench, "s1");
          row(bench, OUTPUT, "-75 -75 -74");
          is(74, () -> bench.measure(6));
        });
  }

  private void cost() {
    sentence("The weights are from 0 to 99, at first 1, 1, 0, 0 and 0", bench -> {
      for (int part = 0; part < 5; part++) {
        int number = part;
        fails(ARGUMENT, () -> bench.setWeight(number, -1));
        fails(ARGUMENT, () -> bench.setWeight(number, 100));
        is(part < 2 ? 1 : 0, () -> bench.setWeight(number, 0));
        is(0, () -> bench.setWeight(number, 99));
      }
    });
    sentence("the sum of weight k times part k, .. where the parts are the measures 0, 2, 5 and 6, and 1000 if the "
        + "settling step is -1, otherwise the settling step", bench -> {
          crossingRun(bench);
          is(370 + 127, bench::cost);
          weights(bench, 2, 3, 5, 7, 11);
          is(2 * 370 + 3 * 127 + 7 * 900 + 11 * 5, bench::cost);
          bench.set(14, 43);
          is(2 * 370 + 3 * 127 + 7 * 900 + 11 * 1000, bench::cost);
          richRun(bench);
          is(13693, bench::cost);
          weights(bench, 0, 0, 99, 0, 0);
          is(99 * 3, bench::cost);
        });
  }

  private static void weights(LineFollowerBench bench, int... weights) {
    for (int part = 0; part < weights.length; part++) {
      bench.setWeight(part, weights[part]);
    }
  }

  /** Two peaks: climb ends at another triple than search. */
  private static void twoPeaks(LineFollowerBench bench) {
    set(bench, 3, 60, 12, 30, 13, 20);
    load(bench, "p3:-40*2");
    bench.setWeight(1, 2);
    bench.setGrid(0, 40, 60, 3);
    bench.setGrid(1, 0, 2, 3);
    bench.setGrid(2, 0, 90, 2);
  }

  private void grid() {
    sentence("with a first value from 0 to 999, a step from 1 to 200 and a count from 1 to 6, such that no value is "
        + "greater than 999", bench -> {
          is(9, () -> bench.setGrid(0, 999, 200, 1));
          fails(ARGUMENT, () -> bench.setGrid(1, 1000, 1, 1));
          fails(ARGUMENT, () -> bench.setGrid(1, -1, 1, 1));
          fails(ARGUMENT, () -> bench.setGrid(1, 0, 0, 1));
          fails(ARGUMENT, () -> bench.setGrid(1, 0, 201, 1));
          fails(ARGUMENT, () -> bench.setGrid(1, 0, 1, 0));
          fails(ARGUMENT, () -> bench.setGrid(1, 0, 1, 7));
          is(18, () -> bench.setGrid(1, 0, 199, 6));
          is(18, () -> bench.setGrid(1, 4, 199, 6));
          fails(ARGUMENT, () -> bench.setGrid(1, 5, 199, 6));
          fails(ARGUMENT, () -> bench.setGrid(1, 0, 200, 6));
          is(18, () -> bench.count(3));
        });
    sentence("at first, the first value is 0, the step 32 and the count 3", bench -> {
      is(27, () -> bench.count(3));
      set(bench, 12, 400, 13, 40);
      bench.setGrid(1, 0, 1, 1);
      bench.setGrid(2, 0, 1, 1);
      bench.search();
      long least = Math.min(costWith(bench, 0), Math.min(costWith(bench, 32), costWith(bench, 64)));
      is(least, () -> bench.foundCost(false));
      is(least, () -> costWith(bench, bench.found(false, 0)));
    });
    sentence("The grid consists of all triples of values", bench -> {
      twoPeaks(bench);
      is(18, bench::search);
      is(40, () -> bench.found(false, 0));
      is(4, () -> bench.found(false, 1));
      is(90, () -> bench.found(false, 2));
    });
  }

  private static long costWith(LineFollowerBench bench, int gain) {
    bench.set(0, gain);
    bench.run();
    return bench.cost();
  }

  private void texts() {
    sentence("A buffer holds at most 50 characters", bench -> {
      for (int count = 0; count < 48; count += 4) {
        bench.append('1' << 24 | '2' << 16 | '3' << 8 | '4');
      }
      fails(STATE, () -> bench.append('1' << 16 | '2' << 8 | '3'));
      is(50, () -> bench.append('1' << 24 | '2' << 8));
      fails(STATE, () -> bench.append('1'));
      is(50, () -> bench.append(0));
      is(50, () -> bench.count(5));
    });
    sentence("text = part { \";\" part }; part = \"s\" number | \"b\" number \":\" signed | \"r\" number \":\" signed "
        + "| \"p\" number \":\" signed \"*\" number", bench -> {
          text(bench, "s5", "s5");
          text(bench, "p0:0*1", "p0:0*1");
          text(bench, "b5:-7;s1", "b5:-7;s1");
          text(bench, "p3:-40*2;r9:0;p3:5*6;b1:50", "r9:0;b1:50;p3:-40*2;p3:5*6");
        });
    sentence("one to three digits that do not start with 0, or 0 alone; it is read as far as digits follow that it can "
        + "have", bench -> {
          wrong(bench, "b1:0;s05", 6);
          wrong(bench, "p05:1*1", 2);
          wrong(bench, "p00:1*1", 2);
          wrong(bench, "b5:007", 4);
          wrong(bench, "p1234:1*1", 4);
          wrong(bench, "p1:4321*1", 6);
          wrong(bench, "s1000", 1);
          text(bench, "p10:-500*99", "p10:-500*99");
        });
    sentence("The signed number -0 is allowed", bench -> {
      text(bench, "b3:-0;p2:-0*4", "b3:0;p2:0*4");
      is(-1, bench::errorPosition);
      wrong(bench, "b3:--0", 4);
      wrong(bench, "b3:-00", 5);
      wrong(bench, "s-0", 1);
    });
  }

  private void text(LineFollowerBench bench, String typed, String described) {
    load(bench, typed);
    same(described, Due.described(bench));
  }

  private void errorPositions() {
    sentence("the index of the first character that is not allowed", bench -> {
      wrong(bench, "x", 0);
      wrong(bench, "S5", 0);
      wrong(bench, ";s5", 0);
      wrong(bench, "s5,s5", 2);
      wrong(bench, "s5:7", 2);
      wrong(bench, "b5;s5", 2);
      wrong(bench, "p5:5;s5", 4);
      wrong(bench, "b5:+5", 3);
    });
    sentence("the first digit of a number that is out of range", bench -> {
      wrong(bench, "s0", 1);
      wrong(bench, "s100", 1);
      wrong(bench, "r1:51", 3);
      wrong(bench, "r1:-51", 4);
      wrong(bench, "p200:1*1", 1);
      wrong(bench, "p1:501*1", 3);
      wrong(bench, "p1:-501*1", 4);
      wrong(bench, "p1:1*0", 5);
      wrong(bench, "p1:1*100", 5);
    });
    sentence("the first character of a ninth segment or a fifth disturbance", bench -> {
      wrong(bench, "s1;s1;s1;s1;s1;s1;s1;s1;s1", 24);
      wrong(bench, "p1:1*1;p1:1*1;p1:1*1;p1:1*1;p1:1*1", 28);
    });
    sentence("or the length of the text if it ends too early", bench -> {
      wrong(bench, "", 0);
      wrong(bench, "s", 1);
      wrong(bench, "s5;", 3);
      wrong(bench, "b5", 2);
      wrong(bench, "b5:", 3);
      wrong(bench, "b5:-", 4);
      wrong(bench, "p5:5", 4);
      wrong(bench, "p5:5*", 5);
    });
    sentence("of several, the lowest index counts, so that a number out of range counts before what follows it, and a "
        + "ninth segment before what is wrong in it", bench -> {
          wrong(bench, "s0x", 1);
          wrong(bench, "b100", 1);
          wrong(bench, "p1:999", 3);
          wrong(bench, "s1;s1;s1;s1;s1;s1;s1;s1;sx", 24);
          wrong(bench, "s1;s1;s1;s1;s1;s1;s1;s1;b", 24);
          wrong(bench, "s1;s1;s1;s1;s1;s1;s1;s1;x", 24);
          wrong(bench, "p1:1*1;p1:1*1;p1:1*1;p1:1*1;p200", 28);
          wrong(bench, "s1;s1;s1;s1;s1;s1;s1;s100;s1", 22);
        });
  }

  private void changes() {
    sentence("The changes are the calls without an exception of set, setPoint, removePoint, setWeight, setGrid, load, "
        + "apply and restore", bench -> {
          bench.search();
          bench.setPoint(1, 1);
          bench.save();
          while (bench.count(6) > 0) {
            bench.undo();
          }
          Due.Call[] changes = {bench::restore, () -> bench.set(0, 64), () -> bench.setPoint(1, 1),
            () -> bench.removePoint(1), () -> bench.setWeight(0, 1), () -> bench.setGrid(0, 0, 32, 3),
            () -> bench.apply(false), bench::restore};
          for (int k = 0; k < changes.length; k++) {
            changes[k].answer();
            is(k == 0 ? 1 : 2, () -> bench.count(6));
            if (k > 0) {
              is(1, bench::undo);
            }
          }
          Boundary.type(bench, "s1");
          bench.load();
          is(2, () -> bench.count(6));
          Due.Call[] others = {bench::run, bench::hold, bench::search, bench::climb, bench::save,
            () -> bench.lowest(1, Long.MAX_VALUE), () -> bench.append('s')};
          for (Due.Call other : others) {
            other.answer();
            is(2, () -> bench.count(6));
          }
        });
    sentence("At most 6 of them can be taken back by undo; older ones are forgotten. .. What was forgotten is not "
        + "remembered again when later changes are taken back", bench -> {
          for (int value = 1; value <= 9; value++) {
            bench.set(14, value);
          }
          for (int left = 5; left >= 0; left--) {
            is(left, bench::undo);
            int now = left + 3;
            is(now, () -> bench.setting(14));
          }
          fails(STATE, bench::undo);
          is(3, () -> bench.setting(14));
          bench.set(14, 77);
          is(0, bench::undo);
          fails(STATE, bench::undo);
          is(3, () -> bench.setting(14));
        });
    sentence("They concern the settings, the table, the weights, the grid, the track and the disturbances", bench -> {
      bench.set(3, 99);
      bench.setPoint(4, 44);
      bench.setWeight(3, 33);
      bench.setGrid(2, 1, 1, 5);
      load(bench, "s4;p2:-9*1");
      bench.save();
      for (int k = 0; k < 5; k++) {
        bench.undo();
      }
      is(400, () -> bench.setting(3));
      is(0, () -> bench.count(2));
      is(27, () -> bench.count(3));
      same("", Due.described(bench));
      is(1, bench::restore);
      is(99, () -> bench.setting(3));
      same("4=44", Boundary.points(bench));
      is(45, () -> bench.count(3));
      same("s4;p2:-9*1", Due.described(bench));
      is(33, () -> bench.setWeight(3, 0));
    });
    sentence("the trace, the held one, what was found, the buffer and the error position stay", bench -> {
      twoPeaks(bench);
      bench.search();
      bench.climb();
      crossingRun(bench);
      bench.hold();
      richRun(bench);
      wrong(bench, "s9;y", 3);
      Boundary.type(bench, "r6:-");
      for (int k = 0; k < 6; k++) {
        bench.undo();
      }
      bench.save();
      bench.set(13, 5);
      bench.restore();
      richRows(bench);
      is(257, () -> bench.compare(0));
      is(0, () -> bench.compare(1));
      is(0, () -> bench.compare(2));
      is(781, () -> bench.foundCost(false));
      is(803, () -> bench.foundCost(true));
      is(4, () -> bench.count(5));
      is(3, bench::errorPosition);
      Boundary.type(bench, "5");
      is(1, bench::load);
      same("r6:-5", Due.described(bench));
    });
  }
}
