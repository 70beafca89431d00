/** Promises 14 and 15: the curvature and the push of a step. */
public final class TrackTest {
  private static final Due due = new Due("TrackTest");

  public static void main(String[] args) {
    curvatures();
    pushes();
    due.end();
  }

  private static void curvatures() {
    LineFollowerBench bench = Due.loaded("s2;b2:7;r3:-10;b1:-50;r4:6");
    int[] first = {0, 0, 7, 7, 0, -3, -6, -50, 0, 1, 3, 4, 0, 0};
    for (int t = 0; t < first.length; t++) {
      int step = t;
      due.is("promise 14: step " + t, first[t], () -> bench.curvature(step));
    }
    due.is("promise 14: the last step", 0, () -> bench.curvature(199));
    LineFollowerBench shorter = Due.loaded("s1;b2:3;r4:5;b6:7;p1:2*3;p1:4*5");
    Due.type(shorter, "r1:1;p2:9*1");
    shorter.load();
    for (int t = 0; t < 20; t++) {
      int step = t;
      due.is("promise 14: nothing of the track before, " + t, 0, () -> shorter.curvature(step));
      due.is("promise 15: nothing of the disturbances before, " + t, t == 2 ? 9 : 0, () -> shorter.push(step));
    }
    due.is("promise 31: lengths of a shorter track", 1, () -> shorter.count(4));
    LineFollowerBench longest = Due.loaded("s99;r99:50;b99:3");
    due.is("promise 14: end of a ramp", 49, () -> longest.curvature(197));
    due.is("promise 14: a bend up to the end", 3, () -> longest.curvature(199));
    for (int wrong : new int[] {-1, 200, Integer.MIN_VALUE, Integer.MAX_VALUE}) {
      due.fails("promise 14: step " + wrong, IndexOutOfBoundsException.class, () -> bench.curvature(wrong));
      due.fails("promise 15: step " + wrong, IndexOutOfBoundsException.class, () -> bench.push(wrong));
    }
  }

  private static void pushes() {
    LineFollowerBench bench = Due.loaded("p0:5*1;p2:-100*3;p4:500*2;p199:9*99");
    int[] first = {5, 0, -100, -100, 400, 500, 0};
    for (int t = 0; t < first.length; t++) {
      int step = t;
      due.is("promise 15: step " + t, first[t], () -> bench.push(step));
    }
    due.is("promise 15: before the last step", 0, () -> bench.push(198));
    due.is("promise 15: the last step", 9, () -> bench.push(199));
    LineFollowerBench all = Due.loaded("p3:500*1;p3:500*1;p3:500*1;p3:500*1");
    due.is("promise 15: four at once", 2000, () -> all.push(3));
  }
}
