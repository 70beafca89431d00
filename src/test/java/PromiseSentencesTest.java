/** The sentences of the document's promises, in their order; rows of runs were worked out beside the class. */
public final class PromiseSentencesTest extends Sentences {
  private static final long ANY = Long.MAX_VALUE;

  public static void main(String[] args) {
    new PromiseSentencesTest().all();
  }

  @Override
  void sentences() {
    settings();
    points();
    weightsAndGrid();
    buffer();
    track();
    runs();
    measures();
    reasons();
    bits();
    comparing();
    tuning();
    lowering();
    counts();
    undoing();
    snapshots();
  }

  private void settings() {
    sentence("1: Creates a bench without segments, disturbances and points", bench -> {
      is(0, () -> bench.count(0));
      is(0, () -> bench.count(1));
      is(0, () -> bench.count(2));
    });
    sentence("2: Sets a setting. Returns the previous value", bench -> {
      is(500, () -> bench.set(12, -2000));
      is(-2000, () -> bench.set(12, -2000));
      is(-2000, () -> bench.set(12, 7));
      is(7, () -> bench.setting(12));
      is(60, () -> bench.setting(13));
    });
    sentence("2 and 3: Throws IndexOutOfBoundsException if there is no such setting", bench -> {
      for (int number : new int[] {-1, 15, Integer.MIN_VALUE, Integer.MAX_VALUE}) {
        fails(INDEX, () -> bench.set(number, 1));
        fails(INDEX, () -> bench.setting(number));
      }
    });
    sentence("2: Throws IllegalArgumentException if the value is out of range", bench -> {
      fails(ARGUMENT, () -> bench.set(7, 4));
      fails(ARGUMENT, () -> bench.set(8, Integer.MAX_VALUE));
      fails(ARGUMENT, () -> bench.set(12, Integer.MIN_VALUE));
      is(0, () -> bench.setting(7));
    });
  }

  private void points() {
    sentence("4: Sets the value of a point of the table, or adds a point. Returns the number of points", bench -> {
      is(1, () -> bench.setPoint(5, 50));
      is(2, () -> bench.setPoint(-5, -50));
      is(2, () -> bench.setPoint(5, 51));
      same("-5=-50 5=51", Boundary.points(bench));
    });
    sentence("5: Removes a point of the table. Returns its value", bench -> {
      fails(ELEMENT, () -> bench.removePoint(5));
      bench.setPoint(5, 50);
      bench.setPoint(6, 60);
      bench.setPoint(7, 70);
      is(60, () -> bench.removePoint(6));
      fails(ELEMENT, () -> bench.removePoint(6));
      same("5=50 7=70", Boundary.points(bench));
      is(60, () -> bench.table(6));
    });
    sentence("6: Returns a part of a point of the table", bench -> {
      bench.setPoint(5, 50);
      bench.setPoint(-6, 60);
      is(-6, () -> bench.point(0, 0));
      is(60, () -> bench.point(0, 1));
      is(5, () -> bench.point(1, 0));
      fails(ELEMENT, () -> bench.point(2, 0));
      fails(ELEMENT, () -> bench.point(-1, 2));
      fails(ARGUMENT, () -> bench.point(1, 2));
      fails(ARGUMENT, () -> bench.point(1, -1));
    });
    sentence("7: Returns the raw output of controller 2 for a seen value", bench -> {
      bench.setPoint(10000, 1000);
      bench.setPoint(-10000, -1000);
      bench.set(3, 1);
      is(-1000, () -> bench.table(-10000));
      is(1000, () -> bench.table(10000));
      is(-1, () -> bench.table(-1));
      is(0, () -> bench.table(9));
      is(1, () -> bench.table(10));
      fails(ARGUMENT, () -> bench.table(10001));
      fails(ARGUMENT, () -> bench.table(-10001));
    });
  }

  private void weightsAndGrid() {
    sentence("8: Sets a weight. Returns the previous weight", bench -> {
      is(1, () -> bench.setWeight(1, 99));
      is(99, () -> bench.setWeight(1, 0));
      is(0, () -> bench.setWeight(1, 1));
      is(0, () -> bench.setWeight(4, 1));
      fails(INDEX, () -> bench.setWeight(5, 1));
      fails(INDEX, () -> bench.setWeight(-1, 1));
      fails(ARGUMENT, () -> bench.setWeight(4, 100));
    });
    sentence("9: Sets the row of values of a gain. Returns the number of triples of the grid", bench -> {
      is(54, () -> bench.setGrid(2, 999 - 5 * 3, 3, 6));
      is(108, () -> bench.setGrid(0, 0, 1, 6));
      is(216, () -> bench.setGrid(1, 0, 1, 6));
      is(36, () -> bench.setGrid(1, 0, 1, 1));
      fails(INDEX, () -> bench.setGrid(3, 0, 1, 1));
      fails(ARGUMENT, () -> bench.setGrid(2, 999 - 5 * 3 + 1, 3, 6));
      fails(ARGUMENT, () -> bench.setGrid(2, 0, Integer.MAX_VALUE, 6));
      is(36, () -> bench.count(3));
    });
  }

  private void buffer() {
    sentence("10: the bytes of an int from the most significant one to the least significant one, where bytes that are "
        + "0 are skipped. Returns the number of characters in the buffer", bench -> {
          is(2, () -> bench.append('s' << 24 | '9'));
          is(4, () -> bench.append(';' << 16 | 'b'));
          is(4, () -> bench.append(0));
          is(8, () -> bench.append('2' << 24 | ':' << 16 | '-' << 8 | '8'));
          is(2, bench::load);
          same("s9;b2:-8", Due.described(bench));
        });
    sentence("10: Throws IllegalArgumentException if a byte that is not 0 is not from 33 to 126", bench -> {
      for (int sign : new int[] {1, 32, 127, 128, 255}) {
        fails(ARGUMENT, () -> bench.append(sign));
        fails(ARGUMENT, () -> bench.append(sign << 24 | 's'));
      }
      is(0, () -> bench.count(5));
      is(2, () -> bench.append(33 << 16 | 126));
    });
    sentence("11: Replaces the track and the disturbances by what the text in the buffer describes. Returns the number "
        + "of parts", bench -> {
          Boundary.type(bench, "p1:1*1;s1;p2:2*2");
          is(3, bench::load);
          Boundary.type(bench, "s7");
          is(1, bench::load);
          is(1, () -> bench.count(0));
          is(0, () -> bench.count(1));
        });
    sentence("11: The buffer is empty afterwards, also if an exception is thrown", bench -> {
      load(bench, "s7");
      is(0, () -> bench.count(5));
      wrong(bench, "s7;s", 4);
      is(0, () -> bench.count(5));
      same("s7", Due.described(bench));
      wrong(bench, "", 0);
      Boundary.type(bench, "s8");
      bench.undo();
      is(1, bench::load);
      same("s8", Due.described(bench));
    });
    sentence("12: Returns the index of the character, or -1 if that text had no error", bench -> {
      wrong(bench, "s1;s1;?", 6);
      is(6, bench::errorPosition);
      Boundary.type(bench, "s1");
      is(6, bench::errorPosition);
      bench.load();
      is(-1, bench::errorPosition);
      bench.undo();
      is(-1, bench::errorPosition);
    });
  }

  private void track() {
    sentence("13: Returns a character of the text of the track and the disturbances, or its length: first all "
        + "segments, then all disturbances, .. also with the curvature or the value 0; without any it is empty",
        bench -> {
          is(0, () -> bench.describe(-1));
          fails(INDEX, () -> bench.describe(0));
          load(bench, "p3:0*4;r5:0;s6");
          is(14, () -> bench.describe(-1));
          same("r5:0;s6;p3:0*4", Due.described(bench));
          fails(INDEX, () -> bench.describe(14));
          fails(INDEX, () -> bench.describe(-2));
          load(bench, "s1");
          is(2, () -> bench.describe(-1));
          fails(INDEX, () -> bench.describe(2));
        });
    sentence("14 and 15: Returns the curvature of a step. Returns the push of a step", bench -> {
      load(bench, "s99;s99;r2:9;p199:-7*9");
      is(0, () -> bench.curvature(198));
      is(4, () -> bench.curvature(199));
      is(0, () -> bench.push(198));
      is(-7, () -> bench.push(199));
      for (int step : new int[] {-1, 200}) {
        fails(INDEX, () -> bench.curvature(step));
        fails(INDEX, () -> bench.push(step));
      }
      load(bench, "s1");
      is(0, () -> bench.curvature(199));
      is(0, () -> bench.push(199));
    });
  }

  /** Errors 9 10 12 15 without gains. */
  private static void pushedRun(LineFollowerBench bench) {
    load(bench, "p0:1*1;p1:2*1;p2:3*1");
    set(bench, 0, 0, 12, 9, 13, 3);
    bench.run();
  }

  private void runs() {
    sentence("16: Makes a run, which leaves a trace. Returns the error after the last step", bench -> {
      load(bench, "p0:1*1;p1:2*1;p2:3*1");
      set(bench, 0, 0, 12, 9, 13, 3);
      is(15, bench::run);
      is(3, () -> bench.count(7));
      bench.set(13, 1);
      is(10, bench::run);
      is(1, () -> bench.count(7));
      bench.set(13, 200);
      is(15, bench::run);
      is(200, () -> bench.count(7));
    });
    sentence("17: for the step that is the number of steps, only 0 is possible", bench -> {
      pushedRun(bench);
      is(15, () -> bench.trace(3, 0));
      for (int what : new int[] {-1, 1, 2, 3, 4, 5, 6}) {
        fails(ARGUMENT, () -> bench.trace(3, what));
      }
      is(12, () -> bench.trace(2, 1));
      fails(ARGUMENT, () -> bench.trace(2, 6));
      fails(INDEX, () -> bench.trace(4, 0));
      fails(INDEX, () -> bench.trace(-1, 0));
    });
  }

  private void measures() {
    sentence("18: Returns a measure of the trace, with the band of now", bench -> {
      pushedRun(bench);
      bench.set(14, 11);
      is(-1, () -> bench.measure(3));
      bench.set(14, 15);
      is(0, () -> bench.measure(3));
      bench.undo();
      is(-1, () -> bench.measure(3));
      is(46, () -> bench.measure(0));
      fails(ARGUMENT, () -> bench.measure(8));
      fails(ARGUMENT, () -> bench.measure(-1));
    });
    sentence("19: Returns the cost of the trace, with the band and the weights of now", bench -> {
      pushedRun(bench);
      is(46, bench::cost);
      bench.setWeight(0, 99);
      is(99 * 46, bench::cost);
      bench.setWeight(4, 2);
      is(99 * 46, bench::cost);
      bench.set(14, 14);
      is(99 * 46 + 2000, bench::cost);
      bench.undo();
      bench.undo();
      bench.undo();
      is(46, bench::cost);
    });
  }

  private void reasons() {
    sentence("20: which share of the raw output .. was greatest in amount .., with the gains of now", bench -> {
      pushedRun(bench);
      is(-1, () -> bench.reason(0));
      bench.set(0, 1);
      is(0, () -> bench.reason(0));
      bench.set(1, 1);
      is(0, () -> bench.reason(0));
      is(1, () -> bench.reason(1));
      set(bench, 0, 19, 1, 10);
      is(0, () -> bench.reason(1));
      set(bench, 0, 0, 1, 0, 2, 1);
      is(-1, () -> bench.reason(0));
      is(2, () -> bench.reason(1));
      set(bench, 0, 1, 2, 6);
      is(0, () -> bench.reason(2));
      bench.set(2, 7);
      is(2, () -> bench.reason(2));
      fails(INDEX, () -> bench.reason(3));
      fails(INDEX, () -> bench.reason(-1));
    });
    sentence("20: the gain times the seen value, .. or the change of the seen values", bench -> {
      bench.set(5, 10);
      pushedRun(bench);
      set(bench, 0, 1, 2, 1);
      is(-1, () -> bench.reason(0));
      is(0, () -> bench.reason(1));
      bench.set(0, 0);
      is(2, () -> bench.reason(1));
      is(-1, () -> bench.reason(2));
    });
    sentence("20: the integral after the step as in the trace ..; also for runs of other controllers", bench -> {
      set(bench, 10, 1, 1, 999);
      pushedRun(bench);
      is(-1, () -> bench.reason(2));
      set(bench, 0, 1, 2, 5);
      is(0, () -> bench.reason(2));
      bench.set(10, 0);
      is(0, () -> bench.reason(2));
      bench.run();
      is(1, () -> bench.reason(2));
    });
  }

  private void bits() {
    sentence("21: divided by their number converted to double. Returns the bits of the double", bench -> {
      pushedRun(bench);
      is(Double.doubleToLongBits((81.0 + 100.0 + 144.0 + 225.0) / 4.0), bench::meanSquareBits);
      set(bench, 12, 1, 13, 2);
      bench.run();
      is(Double.doubleToLongBits((1.0 + 4.0 + 16.0) / 3.0), bench::meanSquareBits);
      load(bench, "s1");
      bench.set(12, 0);
      bench.run();
      is(0, bench::meanSquareBits);
    });
    sentence("22: their number divided by the number of steps, both converted to float. Returns the bits of the float",
        bench -> {
          load(bench, "p0:-100*1;p1:100*1");
          set(bench, 3, 60, 4, 1, 12, 100, 13, 3);
          bench.run();
          is(Float.floatToIntBits(2.0f / 3.0f), bench::saturatedBits);
          bench.set(13, 1);
          bench.run();
          is(Float.floatToIntBits(1.0f), bench::saturatedBits);
          bench.set(0, 0);
          bench.run();
          is(0, bench::saturatedBits);
        });
  }

  private void comparing() {
    sentence("23: Holds the trace for comparisons, in place of one that was held before. Returns its number of steps",
        bench -> {
          pushedRun(bench);
          is(3, bench::hold);
          bench.set(13, 2);
          bench.run();
          is(0, () -> bench.compare(0));
          is(2, bench::hold);
          bench.set(12, 10);
          bench.run();
          is(1, () -> bench.compare(0));
        });
    sentence("24: Compares the errors of the trace with those of the held one, as far as both have them", bench -> {
      pushedRun(bench);
      bench.hold();
      is(0, () -> bench.compare(0));
      is(-1, () -> bench.compare(1));
      is(0, () -> bench.compare(2));
      load(bench, "p1:1*1;p2:-29*1");
      for (int steps : new int[] {200, 3}) {
        bench.set(13, steps);
        bench.run();
        is(34, () -> bench.compare(0));
        is(1, () -> bench.compare(1));
        is(2, () -> bench.compare(2));
      }
      bench.set(13, 2);
      bench.run();
      is(2, () -> bench.compare(0));
      is(2, () -> bench.compare(2));
      load(bench, "p0:1*1;p1:2*1;p2:4*1");
      bench.set(13, 3);
      bench.run();
      is(3, () -> bench.compare(1));
      fails(ARGUMENT, () -> bench.compare(3));
      fails(ARGUMENT, () -> bench.compare(-1));
    });
  }

  /** Two peaks: climb ends at another triple than search. */
  private static void twoPeaks(LineFollowerBench bench) {
    set(bench, 3, 60, 12, 30, 13, 20);
    load(bench, "p3:-40*2");
    bench.setWeight(1, 2);
    bench.setGrid(0, 40, 60, 3);
    bench.setGrid(1, 0, 2, 3);
    bench.setGrid(2, 0, 90, 2);
  }

  private void found(LineFollowerBench bench, boolean climbed, long cost, int... parts) {
    for (int what = 0; what < 4; what++) {
      int number = what;
      is(parts[what], () -> bench.found(climbed, number));
    }
    is(cost, () -> bench.foundCost(climbed));
  }

  private void tuning() {
    sentence("25: Finds the triple of the grid with the least cost of a run, with the other settings as they are. "
        + "Returns the number of triples", bench -> {
          twoPeaks(bench);
          is(18, bench::search);
          found(bench, false, 781, 40, 4, 90, 17);
        });
    sentence("25: of several the one with the least proportional, then integral, then derivative gain", bench -> {
      set(bench, 12, 0, 13, 9);
      bench.setGrid(0, 7, 5, 2);
      bench.setGrid(1, 8, 5, 2);
      bench.setGrid(2, 9, 5, 2);
      bench.search();
      bench.climb();
      found(bench, false, 0, 7, 8, 9, 0);
      found(bench, true, 0, 7, 8, 9, 0);
    });
    sentence("26: Climbs along the grid .. Returns the number of gains that were looked at", bench -> {
      twoPeaks(bench);
      is(6, bench::climb);
      found(bench, true, 803, 100, 0, 90, 15);
      bench.set(12, 0);
      load(bench, "s1");
      is(3, bench::climb);
      found(bench, true, 0, 40, 0, 0, 0);
    });
    sentence("27 and 28: Returns what search or climb found last .. were greater then", bench -> {
      twoPeaks(bench);
      bench.search();
      bench.climb();
      bench.set(12, 0);
      bench.setWeight(0, 99);
      bench.setGrid(0, 5, 5, 6);
      load(bench, "s1");
      found(bench, false, 781, 40, 4, 90, 17);
      found(bench, true, 803, 100, 0, 90, 15);
      bench.search();
      found(bench, false, 0, 5, 0, 0, 0);
      found(bench, true, 803, 100, 0, 90, 15);
      fails(ARGUMENT, () -> bench.found(true, 4));
      fails(ARGUMENT, () -> bench.found(false, -1));
    });
    sentence("29: Makes the gains that search or climb found last the settings; this is a change also if they are the "
        + "same. Returns the number of gains that change", bench -> {
          twoPeaks(bench);
          bench.search();
          bench.climb();
          is(3, () -> bench.apply(false));
          is(2, () -> bench.apply(true));
          is(0, () -> bench.apply(true));
          is(100, () -> bench.setting(0));
          is(0, () -> bench.setting(1));
          is(90, () -> bench.setting(2));
          bench.undo();
          is(100, () -> bench.setting(0));
          bench.undo();
          is(4, () -> bench.setting(1));
          bench.run();
          is(781, bench::cost);
        });
  }

  private void lowering() {
    sentence("30: the least value of its range not above the present one such that with it, and with all values "
        + "between it and the present one, the cost of a run is at most a given one", bench -> {
          set(bench, 0, 100, 12, 40, 13, 25);
          load(bench, "s3;b9:15");
          int[] weights = {1, 2, 0, 1, 3};
          for (int part = 0; part < 5; part++) {
            bench.setWeight(part, weights[part]);
          }
          is(100, () -> bench.lowest(0, 1423));
          is(100, () -> bench.lowest(0, 1428));
          is(99, () -> bench.lowest(0, 1453));
          is(94, () -> bench.lowest(0, 1523));
          is(0, () -> bench.lowest(0, ANY));
          is(0, () -> bench.lowest(1, 1423));
          is(96, () -> bench.lowest(3, 1423));
          is(88, () -> bench.lowest(3, 1428));
          is(1, () -> bench.lowest(3, ANY));
          is(100, () -> bench.setting(0));
          is(400, () -> bench.setting(3));
        });
    sentence("30: Throws .. NoSuchElementException if the cost with the present value is greater", bench -> {
      set(bench, 0, 0, 12, 3, 13, 2);
      is(0, () -> bench.lowest(0, 9));
      fails(ELEMENT, () -> bench.lowest(0, 8));
      fails(ELEMENT, () -> bench.lowest(3, Long.MIN_VALUE));
      fails(INDEX, () -> bench.lowest(4, 9));
      fails(INDEX, () -> bench.lowest(-1, 9));
      fails(INDEX, () -> bench.lowest(15, 8));
    });
  }

  private void counts() {
    sentence("31: Returns a count", bench -> {
      load(bench, "s9;b20:1;p1:1*99");
      bench.setPoint(1, 1);
      Boundary.type(bench, "s1;s1");
      bench.run();
      int[] counts = {2, 1, 1, 27, 29, 5};
      for (int what = 0; what < counts.length; what++) {
        int number = what;
        is(counts[what], () -> bench.count(number));
      }
      is(60, () -> bench.count(7));
      fails(ARGUMENT, () -> bench.count(8));
      fails(ARGUMENT, () -> bench.count(-1));
    });
  }

  private void undoing() {
    sentence("32: Takes back the latest change that was not taken back. Returns the number of changes that can still "
        + "be taken back", bench -> {
          bench.save();
          while (bench.count(6) > 0) {
            bench.undo();
          }
          fails(STATE, bench::undo);
          bench.restore();
          set(bench, 3, 30, 3, 31);
          is(2, bench::undo);
          is(30, () -> bench.setting(3));
          bench.set(3, 32);
          is(2, bench::undo);
          is(1, bench::undo);
          is(400, () -> bench.setting(3));
        });
  }

  private void snapshots() {
    sentence("33: Saves .., replacing what was saved before. Returns the number of segments", bench -> {
      load(bench, "s1;s2;p1:1*1");
      is(2, bench::save);
      load(bench, "s3");
      is(1, bench::save);
      load(bench, "s4;s5;s6");
      is(1, bench::restore);
      same("s3", Due.described(bench));
    });
    sentence("34: Restores what was saved; it stays saved. Returns the number of segments", bench -> {
      load(bench, "s1;s2;p1:1*1");
      bench.set(14, 3);
      bench.save();
      for (int times = 0; times < 2; times++) {
        bench.set(14, 4);
        load(bench, "s9");
        is(2, bench::restore);
        is(3, () -> bench.setting(14));
        same("s1;s2;p1:1*1", Due.described(bench));
      }
      bench.undo();
      is(4, () -> bench.setting(14));
      is(2, bench::restore);
      is(3, () -> bench.setting(14));
    });
  }
}
