import java.util.function.Supplier;

/** Boundary cases of promises 4 to 7: the table. */
public final class BoundaryTableTest extends Boundary {
  private static final Supplier<LineFollowerBench> FULL = () -> pointed(-20, 1, -10, 2, 0, 3, 10, 4, 20, 5);

  public static void main(String[] args) {
    new BoundaryTableTest().runAll(4, 7);
  }

  @Override
  void tests() {
    pointRanges();
    fullTable();
    order();
    pointChanges();
    leaving();
    removing();
    removingFrom();
    parts();
    tableRanges();
    fewPoints();
    lines();
  }

  /** A bench with points, given as place, value, place, value .. */
  private static LineFollowerBench pointed(int... points) {
    LineFollowerBench bench = new LineFollowerBench();
    for (int k = 0; k < points.length; k += 2) {
      bench.setPoint(points[k], points[k + 1]);
    }
    return bench;
  }

  private void pointRanges() {
    accepted("the least place", -10000, 7);
    accepted("the greatest place", 10000, 7);
    accepted("the least value", 7, -1000);
    accepted("the greatest value", 7, 1000);
    accepted("the value 0 at the place 0", 0, 0);
    int[][] wrong = {{-10001, 0}, {10001, 0}, {MIN, 0}, {MAX, 0}, {0, -1001}, {0, 1001}, {0, MIN}, {0, MAX},
      {-10001, -1001}, {10001, 1001}};
    for (int[] point : wrong) {
      refused(4, "out of range, " + point[0] + " and " + point[1], ARGUMENT, RICH,
          b -> b.setPoint(point[0], point[1]));
    }
    refused(4, "out of range in a new object", ARGUMENT, FRESH, b -> b.setPoint(10001, 0));
  }

  private void accepted(String name, int place, int value) {
    test(4, name, () -> {
      LineFollowerBench bench = new LineFollowerBench();
      is(1, () -> bench.setPoint(place, value));
      is(place, () -> bench.point(0, 0));
      is(value, () -> bench.point(0, 1));
    });
  }

  private void fullTable() {
    answers(4, "the fifth point", 5, () -> pointed(1, 1, 2, 2, 3, 3, 4, 4), b -> b.setPoint(5, 5));
    refused(4, "a sixth point, before the first", STATE, FULL, b -> b.setPoint(-21, 0));
    refused(4, "a sixth point, in between", STATE, FULL, b -> b.setPoint(1, 0));
    refused(4, "a sixth point, behind the last", STATE, FULL, b -> b.setPoint(21, 0));
    refused(4, "full, a place out of range comes first", ARGUMENT, FULL, b -> b.setPoint(-10001, 0));
    refused(4, "full, a value out of range at a new place comes first", ARGUMENT, FULL, b -> b.setPoint(1, 1001));
    refused(4, "full, a value out of range at a place of a point", ARGUMENT, FULL, b -> b.setPoint(0, -1001));
    for (int k = 0; k < 5; k++) {
      int index = k;
      test(4, "full, again at the place of point " + k, () -> {
        LineFollowerBench bench = FULL.get();
        is(5, () -> bench.setPoint(index * 10 - 20, -7));
        is(-7, () -> bench.point(index, 1));
        is(5, () -> bench.count(2));
      });
    }
    test(4, "a new point after one of five was removed", () -> {
      LineFollowerBench bench = FULL.get();
      bench.removePoint(0);
      is(5, () -> bench.setPoint(1, 9));
      same("-20=1 -10=2 1=9 10=4 20=5", points(bench));
    });
    test(4, "a new point after the fifth was taken back", () -> {
      LineFollowerBench bench = FULL.get();
      bench.undo();
      is(5, () -> bench.setPoint(-30, 9));
      same("-30=9 -20=1 -10=2 0=3 10=4", points(bench));
    });
  }

  private void order() {
    test(4, "places that are neighbors", () -> same("-1=2 0=3 1=1", points(pointed(1, 1, -1, 2, 0, 3))));
    test(4, "before the first", () -> same("-6=2 -5=1", points(pointed(-5, 1, -6, 2))));
    test(4, "behind the last", () -> same("-5=1 -4=2", points(pointed(-5, 1, -4, 2))));
    test(4, "from the greatest place to the least", () -> same("-10000=5 -1=4 0=3 1=2 10000=1",
        points(pointed(10000, 1, 1, 2, 0, 3, -1, 4, -10000, 5))));
  }

  private void pointChanges() {
    test(4, "the value that is there already is a change", () -> {
      LineFollowerBench bench = pointed(5, 6);
      is(1, () -> bench.setPoint(5, 6));
      is(2, () -> bench.count(6));
    });
    test(4, "refused points are no changes", () -> {
      LineFollowerBench bench = pointed(1, 1, 2, 2, 3, 3, 4, 4, 5, 5);
      fails(STATE, () -> bench.setPoint(6, 6));
      fails(ARGUMENT, () -> bench.setPoint(5, 1001));
      is(5, () -> bench.count(6));
    });
  }

  private void leaving() {
    leavesAll(4, "a new point changes nothing else", RICH, b -> b.setPoint(0, 0), "table", "past");
    leavesAll(4, "the fifth point changes nothing else", () -> pointed(1, 1, 2, 2, 3, 3, 4, 4),
        b -> b.setPoint(10000, 1000), "table", "past");
    leavesAll(4, "the value that is there already changes nothing else", RICH, b -> b.setPoint(40, 250), "past");
    leavesAll(5, "a removed point changes nothing else", RICH, b -> b.removePoint(40), "table", "past");
    leavesAll(5, "the removed only point changes nothing else", () -> pointed(7, 7), b -> b.removePoint(7),
        "table", "past");
  }

  private void removing() {
    refused(5, "an empty table", ELEMENT, FRESH, b -> b.removePoint(0));
    refused(5, "just before the first point", ELEMENT, RICH, b -> b.removePoint(39));
    refused(5, "just behind the first point", ELEMENT, RICH, b -> b.removePoint(41));
    refused(5, "just behind the last point", ELEMENT, RICH, b -> b.removePoint(301));
    refused(5, "a place whose point was removed", ELEMENT, RICH, b -> b.removePoint(-100));
    refused(5, "a place that is only a value", ELEMENT, RICH, b -> b.removePoint(250));
    refused(5, "the place 0 behind the points", ELEMENT, RICH, b -> b.removePoint(0));
    refused(5, "a place out of range", ELEMENT, RICH, b -> b.removePoint(10001));
    refused(5, "the least int", ELEMENT, RICH, b -> b.removePoint(MIN));
    refused(5, "the greatest int", ELEMENT, RICH, b -> b.removePoint(MAX));
    refused(5, "none at this place of a full table", ELEMENT, FULL, b -> b.removePoint(1));
    test(5, "the only point, and then none", () -> {
      LineFollowerBench bench = pointed(7, -1000);
      is(-1000, () -> bench.removePoint(7));
      is(0, () -> bench.count(2));
      fails(ELEMENT, () -> bench.removePoint(7));
      is(2, () -> bench.count(6));
    });
    test(5, "a point with the value 0", () -> {
      LineFollowerBench bench = pointed(0, 0);
      is(0, () -> bench.removePoint(0));
      is(0, () -> bench.count(2));
    });
    answers(5, "at the least place", 5, () -> pointed(-10000, 5), b -> b.removePoint(-10000));
    answers(5, "at the greatest place", 5, () -> pointed(10000, 5), b -> b.removePoint(10000));
  }

  private void removingFrom() {
    String[] rest = {"-10=2 0=3 10=4 20=5", "-20=1 0=3 10=4 20=5", "-20=1 -10=2 10=4 20=5", "-20=1 -10=2 0=3 20=5",
      "-20=1 -10=2 0=3 10=4"};
    for (int k = 0; k < rest.length; k++) {
      int index = k;
      test(5, "point " + k + " of a full table", () -> {
        LineFollowerBench bench = FULL.get();
        is(index + 1, () -> bench.removePoint(index * 10 - 20));
        same(rest[index], points(bench));
        fails(ELEMENT, () -> bench.removePoint(index * 10 - 20));
      });
    }
  }

  private void parts() {
    refused(6, "an empty table", ELEMENT, FRESH, b -> b.point(0, 0));
    refused(6, "an empty table comes before a wrong what", ELEMENT, FRESH, b -> b.point(0, 2));
    answers(6, "the first point", 40, RICH, b -> b.point(0, 0));
    answers(6, "the last point", 77, RICH, b -> b.point(1, 1));
    refused(6, "index -1, just before the first", ELEMENT, RICH, b -> b.point(-1, 0));
    refused(6, "index 2, just behind the last of two", ELEMENT, RICH, b -> b.point(2, 0));
    refused(6, "index of the least int", ELEMENT, RICH, b -> b.point(MIN, 1));
    refused(6, "index of the greatest int", ELEMENT, RICH, b -> b.point(MAX, 1));
    answers(6, "index 4, the last of a full table", 5, FULL, b -> b.point(4, 1));
    refused(6, "index 5, behind a full table", ELEMENT, FULL, b -> b.point(5, 0));
    refused(6, "what -1", ARGUMENT, RICH, b -> b.point(0, -1));
    refused(6, "what 2", ARGUMENT, RICH, b -> b.point(1, 2));
    refused(6, "what of the least int", ARGUMENT, RICH, b -> b.point(0, MIN));
    refused(6, "what of the greatest int", ARGUMENT, RICH, b -> b.point(0, MAX));
    refused(6, "no such point comes before a wrong what", ELEMENT, RICH, b -> b.point(2, 2));
    refused(6, "before the first point comes before a wrong what", ELEMENT, RICH, b -> b.point(-1, -1));
    leavesAll(6, "it leaves all as it is", RICH, b -> b.point(1, 0));
    test(6, "the last index after one of five was removed", () -> {
      LineFollowerBench bench = FULL.get();
      bench.removePoint(-20);
      is(20, () -> bench.point(3, 0));
      fails(ELEMENT, () -> bench.point(4, 0));
    });
  }

  private void tableRanges() {
    refused(7, "-10001, just too low", ARGUMENT, RICH, b -> b.table(-10001));
    refused(7, "10001, just too great", ARGUMENT, RICH, b -> b.table(10001));
    refused(7, "the least int", ARGUMENT, RICH, b -> b.table(MIN));
    refused(7, "the greatest int", ARGUMENT, RICH, b -> b.table(MAX));
    refused(7, "too low for an empty table", ARGUMENT, FRESH, b -> b.table(-10001));
    refused(7, "too great for an empty table", ARGUMENT, FRESH, b -> b.table(10001));
    answers(7, "the least seen value of a rich table", 250, RICH, b -> b.table(-10000));
    answers(7, "the greatest seen value of a rich table", 77, RICH, b -> b.table(10000));
    leavesAll(7, "it leaves all as it is", RICH, b -> b.table(100));
    Supplier<LineFollowerBench> widest = () -> pointed(-10000, -1000, 10000, 1000);
    answers(7, "the first point at the least place", -1000, widest, b -> b.table(-10000));
    answers(7, "just behind the least place", -1000, widest, b -> b.table(-9999));
    answers(7, "the middle of the widest table", 0, widest, b -> b.table(0));
    answers(7, "the greatest product does not wrap around", 999, widest, b -> b.table(9999));
    answers(7, "the last point at the greatest place", 1000, widest, b -> b.table(10000));
    answers(7, "the greatest product below 0", -999, () -> pointed(-10000, 1000, 10000, -1000), b -> b.table(9999));
  }

  private void fewPoints() {
    answers(7, "an empty table", 0, FRESH, b -> b.table(0));
    answers(7, "an empty table at the least value", 0, FRESH, b -> b.table(-10000));
    answers(7, "an empty table at the greatest value", 0, FRESH, b -> b.table(10000));
    answers(7, "one point, before it", 100, () -> pointed(10, 100), b -> b.table(9));
    answers(7, "one point, at it", 100, () -> pointed(10, 100), b -> b.table(10));
    answers(7, "one point, behind it", 100, () -> pointed(10, 100), b -> b.table(11));
    answers(7, "one point below 0, behind it", 100, () -> pointed(-5, 100), b -> b.table(-3));
    answers(7, "two points below 0, behind them", 90, () -> pointed(-5, 100, -4, 90), b -> b.table(-3));
    test(7, "behind the last point after a later one was removed", () -> {
      LineFollowerBench bench = pointed(10, 100, 20, 200, 30, 900);
      bench.removePoint(30);
      is(200, () -> bench.table(25));
      is(200, () -> bench.table(30));
    });
    test(7, "behind the only point after a later one was removed", () -> {
      LineFollowerBench bench = pointed(10, 100, 20, 200);
      bench.removePoint(20);
      is(100, () -> bench.table(15));
    });
    test(7, "before the first point after an earlier one was removed", () -> {
      LineFollowerBench bench = pointed(10, 100, 20, 200, 30, 900);
      bench.removePoint(10);
      is(200, () -> bench.table(15));
    });
    test(7, "behind the last point after a later one was taken back", () -> {
      LineFollowerBench bench = pointed(10, 100, 20, 200);
      bench.undo();
      is(100, () -> bench.table(15));
    });
    test(7, "empty again after the last point was removed", () -> {
      LineFollowerBench bench = pointed(10, 100);
      bench.removePoint(10);
      is(0, () -> bench.table(10));
    });
  }

  private void lines() {
    Supplier<LineFollowerBench> three = () -> pointed(10, 100, 13, 110, 20, -1);
    int[][] due = {{9, 100}, {10, 100}, {11, 103}, {12, 106}, {13, 110}, {14, 95}, {19, 15}, {20, -1}, {21, -1}};
    String[] names = {"just before the first point", "at the first point", "just behind the first point",
      "just before the second point", "at the second point", "just behind the second point",
      "just before the last point", "at the last point", "just behind the last point"};
    for (int k = 0; k < due.length; k++) {
      int seen = due[k][0];
      answers(7, names[k], due[k][1], three, b -> b.table(seen));
    }
    answers(7, "a falling line is truncated toward its first point", -103, () -> pointed(0, -100, 3, -110),
        b -> b.table(1));
    answers(7, "a rising line is truncated toward its first point", -97, () -> pointed(0, -100, 3, -90),
        b -> b.table(1));
    answers(7, "points at neighboring places, the first", -1000, () -> pointed(0, -1000, 1, 1000), b -> b.table(0));
    answers(7, "points at neighboring places, the second", 1000, () -> pointed(0, -1000, 1, 1000), b -> b.table(1));
    answers(7, "between the fourth and the fifth point", 4, FULL, b -> b.table(19));
    answers(7, "at the fifth point", 5, FULL, b -> b.table(20));
    answers(7, "behind the fifth point", 5, FULL, b -> b.table(21));
  }
}
