import java.util.function.Supplier;

/** Boundary cases of promises 8 and 9: weights and the grid. */
public final class BoundaryGridTest extends Boundary {
  public static void main(String[] args) {
    new BoundaryGridTest().runAll(8, 9);
  }

  @Override
  void tests() {
    weights();
    parts();
    rows();
    wrongRows();
    greatestValues();
    gains();
    gridChanges();
    leaving();
  }

  private void weights() {
    int[] first = {1, 1, 0, 0, 0};
    for (int k = 0; k < 5; k++) {
      int part = k;
      for (int value : new int[] {0, 99}) {
        test(8, "part " + k + ", the weight " + value, () -> {
          LineFollowerBench bench = new LineFollowerBench();
          is(first[part], () -> bench.setWeight(part, value));
          is(value, () -> bench.setWeight(part, value));
          is(2, () -> bench.count(6));
        });
      }
      for (int value : new int[] {-1, 100, MIN, MAX}) {
        refused(8, "part " + k + ", the weight " + value, ARGUMENT, RICH, b -> b.setWeight(part, value));
      }
      test(8, "part " + k + " leaves the other ones", () -> {
        LineFollowerBench bench = new LineFollowerBench();
        bench.setWeight(part, 99);
        for (int other = 0; other < 5; other++) {
          int index = other;
          is(other == part ? 99 : first[other], () -> bench.setWeight(index, 0));
        }
      });
    }
  }

  private void parts() {
    for (int part : new int[] {-1, 5, MIN, MAX}) {
      refused(8, "part " + part, INDEX, RICH, b -> b.setWeight(part, 1));
      refused(8, "part " + part + " comes before a weight too low", INDEX, RICH, b -> b.setWeight(part, -1));
      refused(8, "part " + part + " comes before a weight too great", INDEX, RICH, b -> b.setWeight(part, 100));
    }
    refused(8, "a new object refuses too", INDEX, FRESH, b -> b.setWeight(5, 1));
    test(8, "the weight that is there already is a change", () -> {
      LineFollowerBench bench = new LineFollowerBench();
      is(1, () -> bench.setWeight(0, 1));
      is(1, () -> bench.count(6));
    });
    test(8, "a refused weight is no change, and the previous one is that of before", () -> {
      LineFollowerBench bench = new LineFollowerBench();
      fails(ARGUMENT, () -> bench.setWeight(0, 100));
      is(0, () -> bench.count(6));
      is(1, () -> bench.setWeight(0, 2));
    });
  }

  private void rows() {
    for (int gain = 0; gain < 3; gain++) {
      accepted(gain, 0, 1, 1, "the least numbers");
      accepted(gain, 999, 200, 1, "the greatest first value and step, with one value");
      accepted(gain, 0, 199, 6, "the greatest count");
      accepted(gain, 4, 199, 6, "a greatest value of 999 with six values");
      accepted(gain, 799, 200, 2, "a greatest value of 999 with the greatest step");
      accepted(gain, 998, 1, 2, "a greatest value of 999 with the least step");
    }
  }

  /** All costs are the same with two outputs, so that the first value is found. */
  private void accepted(int gain, int first, int step, int count, String name) {
    test(9, "gain " + gain + ", " + name, () -> {
      LineFollowerBench bench = with("", 10, 1);
      is(9 * count, () -> bench.setGrid(gain, first, step, count));
      is(9 * count, () -> bench.count(3));
      bench.search();
      is(first, () -> bench.found(false, gain));
    });
  }

  private void wrongRows() {
    int[][] wrong = {{-1, 1, 1}, {1000, 1, 1}, {MIN, 1, 1}, {MAX, 1, 1}, {0, 0, 1}, {0, 201, 1}, {0, -1, 1},
      {0, MIN, 1}, {0, MAX, 1}, {0, 1, 0}, {0, 1, 7}, {0, 1, -1}, {0, 1, MIN}, {0, 1, MAX}, {-1, 0, 0},
      {1000, 201, 7}};
    for (int[] row : wrong) {
      for (int k = 0; k < 3; k++) {
        int gain = k;
        refused(9, named(gain, row) + " is out of range", ARGUMENT, RICH,
            b -> b.setGrid(gain, row[0], row[1], row[2]));
      }
    }
    refused(9, "a new object refuses too", ARGUMENT, FRESH, b -> b.setGrid(0, 0, 1, 7));
  }

  private static String named(int gain, int[] row) {
    return "gain " + gain + ", " + row[0] + " + " + row[1] + " * " + row[2] + " values";
  }

  private void greatestValues() {
    int[][] tooGreat = {{5, 199, 6}, {0, 200, 6}, {800, 200, 2}, {999, 1, 2}, {995, 1, 6}, {999, 200, 6}};
    int[][] wrapped = {{0, 1 << 30, 5}, {999, MAX, 2}, {0, 1 << 31, 3}, {0, 200, (1 << 30) + 1}, {MAX, 1, 2},
      {MIN, 200, 6}};
    for (int k = 0; k < 3; k++) {
      int gain = k;
      for (int[] row : tooGreat) {
        refused(9, named(gain, row) + ", the last one too great", ARGUMENT, RICH,
            b -> b.setGrid(gain, row[0], row[1], row[2]));
      }
      for (int[] row : wrapped) {
        refused(9, named(gain, row) + ", which wrap around", ARGUMENT, RICH,
            b -> b.setGrid(gain, row[0], row[1], row[2]));
      }
    }
  }

  private void gains() {
    for (int gain : new int[] {-1, 3, MIN, MAX}) {
      refused(9, "gain " + gain, INDEX, RICH, b -> b.setGrid(gain, 0, 1, 1));
      refused(9, "gain " + gain + " comes before a first value out of range", INDEX, RICH,
          b -> b.setGrid(gain, -1, 1, 1));
      refused(9, "gain " + gain + " comes before a step out of range", INDEX, RICH, b -> b.setGrid(gain, 0, 201, 1));
      refused(9, "gain " + gain + " comes before a count out of range", INDEX, RICH, b -> b.setGrid(gain, 0, 1, 7));
      refused(9, "gain " + gain + " comes before a value too great", INDEX, RICH, b -> b.setGrid(gain, 999, 1, 2));
    }
  }

  private void gridChanges() {
    Supplier<LineFollowerBench> one = () -> gridded(1);
    Supplier<LineFollowerBench> six = () -> gridded(6);
    answers(9, "a grid of one triple", 1, one, b -> b.setGrid(2, 5, 1, 1));
    answers(9, "a grid of 216 triples", 216, six, b -> b.setGrid(2, 5, 1, 6));
    test(9, "the row that is there already is a change", () -> {
      LineFollowerBench bench = new LineFollowerBench();
      is(27, () -> bench.setGrid(0, 0, 32, 3));
      is(1, () -> bench.count(6));
    });
    test(9, "a refused row is no change", () -> {
      LineFollowerBench bench = new LineFollowerBench();
      fails(ARGUMENT, () -> bench.setGrid(0, 999, 1, 2));
      fails(INDEX, () -> bench.setGrid(3, 0, 1, 1));
      is(0, () -> bench.count(6));
      is(27, () -> bench.count(3));
    });
    test(9, "a gain leaves the rows of the other ones", () -> {
      LineFollowerBench bench = with("", 10, 1);
      bench.setGrid(0, 7, 1, 1);
      bench.setGrid(2, 9, 1, 2);
      bench.setGrid(1, 8, 1, 3);
      bench.search();
      is(6, () -> bench.count(3));
      is(7, () -> bench.found(false, 0));
      is(8, () -> bench.found(false, 1));
      is(9, () -> bench.found(false, 2));
    });
  }

  private void leaving() {
    leavesAll(8, "a greatest weight changes nothing else", RICH, b -> b.setWeight(4, 99),
        "weights", "measures", "past");
    leavesAll(8, "the weight that is there already changes nothing else", RICH, b -> b.setWeight(4, 11), "past");
    leavesAll(9, "a row of six changes nothing else", RICH, b -> b.setGrid(2, 4, 199, 6), "grid", "past");
    leavesAll(9, "the row that is there already changes nothing else", RICH, b -> b.setGrid(0, 9, 40, 3), "past");
  }

  private static LineFollowerBench gridded(int count) {
    LineFollowerBench bench = new LineFollowerBench();
    for (int gain = 0; gain < 3; gain++) {
      bench.setGrid(gain, 0, 1, count);
    }
    return bench;
  }
}
