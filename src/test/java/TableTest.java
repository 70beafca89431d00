import java.util.NoSuchElementException;

/** Promises 4 to 7: the table of controller 2. */
public final class TableTest {
  private static final Due due = new Due("TableTest");

  public static void main(String[] args) {
    points();
    removing();
    interpolation();
    due.end();
  }

  private static String points(LineFollowerBench bench) {
    StringBuilder text = new StringBuilder();
    for (int k = 0; k < bench.count(2); k++) {
      text.append(bench.point(k, 0)).append('=').append(bench.point(k, 1)).append(' ');
    }
    return text.toString().trim();
  }

  private static void points() {
    LineFollowerBench bench = new LineFollowerBench();
    due.is("promise 4: first point", 1, () -> bench.setPoint(10, 1000));
    due.is("promise 4: before it", 2, () -> bench.setPoint(-10000, -1000));
    due.is("promise 4: behind it", 3, () -> bench.setPoint(10000, 7));
    due.is("promise 4: between", 4, () -> bench.setPoint(9, 0));
    due.is("promise 4: again", 4, () -> bench.setPoint(10, 5));
    due.is("promise 4: the fifth", 5, () -> bench.setPoint(11, 6));
    due.compare("promise 6: order", "-10000=-1000 9=0 10=5 11=6 10000=7", points(bench));
    due.fails("promise 4: a sixth", IllegalStateException.class, () -> bench.setPoint(12, 6));
    due.is("promise 4: again when full", 5, () -> bench.setPoint(11, -6));
    due.is("promise 4: again when full", 5, () -> bench.setPoint(-10000, 8));
    due.fails("promise 4: place", IllegalArgumentException.class, () -> bench.setPoint(10001, 0));
    due.fails("promise 4: place", IllegalArgumentException.class, () -> bench.setPoint(-10001, 0));
    due.fails("promise 4: value", IllegalArgumentException.class, () -> bench.setPoint(10, 1001));
    due.fails("promise 4: value", IllegalArgumentException.class, () -> bench.setPoint(12, -1001));
    due.fails("promise 4: place", IllegalArgumentException.class, () -> bench.setPoint(Integer.MIN_VALUE, 0));
    due.compare("promise 4: wrong points change nothing", "-10000=8 9=0 10=5 11=-6 10000=7", points(bench));
    due.fails("promise 6: index", NoSuchElementException.class, () -> bench.point(5, 2));
    due.fails("promise 6: index", NoSuchElementException.class, () -> bench.point(-1, 0));
    due.fails("promise 6: index", NoSuchElementException.class, () -> bench.point(Integer.MAX_VALUE, 0));
    due.fails("promise 6: what", IllegalArgumentException.class, () -> bench.point(4, 2));
    due.fails("promise 6: what", IllegalArgumentException.class, () -> bench.point(0, -1));
  }

  private static void removing() {
    LineFollowerBench bench = new LineFollowerBench();
    int[] places = {5, 3, 1, 4, 2};
    for (int place : places) {
      bench.setPoint(place, place * 10);
    }
    due.is("promise 5: in the middle", 30, () -> bench.removePoint(3));
    due.compare("promise 5: the others stay", "1=10 2=20 4=40 5=50", points(bench));
    due.fails("promise 5: again", NoSuchElementException.class, () -> bench.removePoint(3));
    due.is("promise 5: the last", 50, () -> bench.removePoint(5));
    due.is("promise 5: the first", 10, () -> bench.removePoint(1));
    due.compare("promise 5: the others stay", "2=20 4=40", points(bench));
    due.fails("promise 6: behind the last", NoSuchElementException.class, () -> bench.point(2, 0));
    due.is("promise 5: back to two", 20, () -> bench.removePoint(2));
    due.is("promise 5: the only one", 40, () -> bench.removePoint(4));
    due.is("promise 7: empty again", 0, () -> bench.table(4));
    due.fails("promise 5: none", NoSuchElementException.class, () -> bench.removePoint(4));
    due.fails("promise 5: none at 0", NoSuchElementException.class, () -> bench.removePoint(0));
  }

  private static void interpolation() {
    LineFollowerBench bench = new LineFollowerBench();
    due.is("promise 7: no point", 0, () -> bench.table(10000));
    bench.setPoint(10, 100);
    due.is("promise 7: one point, before", 100, () -> bench.table(-10000));
    due.is("promise 7: one point, behind", 100, () -> bench.table(10000));
    bench.setPoint(13, 110);
    bench.setPoint(20, -1);
    int[][] pairs = {{9, 100}, {10, 100}, {11, 103}, {12, 106}, {13, 110}, {14, 95}, {16, 63}, {19, 15},
      {20, -1}, {21, -1}, {10000, -1}, {-10000, 100}};
    for (int[] pair : pairs) {
      due.is("promise 7: at " + pair[0], pair[1], () -> bench.table(pair[0]));
    }
    due.fails("promise 7: too great", IllegalArgumentException.class, () -> bench.table(10001));
    due.fails("promise 7: too low", IllegalArgumentException.class, () -> bench.table(-10001));
    due.fails("promise 7: too low", IllegalArgumentException.class, () -> bench.table(Integer.MIN_VALUE));
    LineFollowerBench wide = new LineFollowerBench();
    wide.setPoint(-10000, -1000);
    wide.setPoint(10000, 1000);
    due.is("promise 7: the whole width", 999, () -> wide.table(9999));
    due.is("promise 7: toward zero from y", -1, () -> wide.table(-5));
  }
}
