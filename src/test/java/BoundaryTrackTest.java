import java.util.function.Supplier;

/** Boundary cases of promises 13 to 15: the description, the curvature and the push of a step. */
public final class BoundaryTrackTest extends Boundary {
  public static void main(String[] args) {
    new BoundaryTrackTest().runAll(13, 15);
  }

  @Override
  void tests() {
    indexes();
    descriptions();
    curvatureSteps();
    curvatures();
    ramps();
    longTracks();
    pushSteps();
    pushes();
    sums();
  }

  private void indexes() {
    Supplier<LineFollowerBench> five = loaded("s7;s8");
    answers(13, "the length", 5, five, b -> b.describe(-1));
    answers(13, "the first character", 's', five, b -> b.describe(0));
    answers(13, "the last character", '8', five, b -> b.describe(4));
    refused(13, "index 5, just behind the last of five", INDEX, five, b -> b.describe(5));
    refused(13, "index -2", INDEX, five, b -> b.describe(-2));
    refused(13, "index of the least int", INDEX, RICH, b -> b.describe(MIN));
    refused(13, "index of the greatest int", INDEX, RICH, b -> b.describe(MAX));
    answers(13, "the length without a track", 0, FRESH, b -> b.describe(-1));
    refused(13, "index 0 without a track", INDEX, FRESH, b -> b.describe(0));
    refused(13, "index -2 without a track", INDEX, FRESH, b -> b.describe(-2));
    refused(13, "an index of the track before, which was longer", INDEX, () -> {
      LineFollowerBench bench = with("s7;s8");
      type(bench, "s9");
      bench.load();
      return bench;
    }, b -> b.describe(2));
    refused(13, "index 0 after the only load was taken back", INDEX, () -> {
      LineFollowerBench bench = with("s7");
      bench.undo();
      return bench;
    }, b -> b.describe(0));
    leavesAll(13, "it leaves all as it is", RICH, b -> b.describe(0));
  }

  private void described(String name, String text, String wanted) {
    test(13, name, () -> same(wanted, Due.described(with(text))));
  }

  private void descriptions() {
    described("the curvature 0 of a bend", "b1:0", "b1:0");
    described("the curvature 0 of a ramp", "r1:0", "r1:0");
    described("the curvature -0", "b1:-0;r1:-0", "b1:0;r1:0");
    described("the value 0", "p0:0*1", "p0:0*1");
    described("the value -0", "p0:-0*1", "p0:0*1");
    described("the least numbers", "s1;b1:-50;r1:-50;p0:-500*1", "s1;b1:-50;r1:-50;p0:-500*1");
    described("the greatest numbers", "s99;b99:50;r99:50;p199:500*99", "s99;b99:50;r99:50;p199:500*99");
    described("segments before disturbances, each in their order", "p2:1*1;s2;p1:1*1;s1", "s2;s1;p2:1*1;p1:1*1");
    described("disturbances alone", "p9:1*1;p3:1*1", "p9:1*1;p3:1*1");
    described("eight segments", "s8;s7;s6;s5;s4;s3;s2;s1", "s8;s7;s6;s5;s4;s3;s2;s1");
    described("four disturbances", "p4:0*1;p3:0*1;p2:0*1;p1:0*1", "p4:0*1;p3:0*1;p2:0*1;p1:0*1");
    described("50 characters", "p199:-500*99;p199:-500*99;p199:-500*99;b99:-50;s99",
        "b99:-50;s99;p199:-500*99;p199:-500*99;p199:-500*99");
    test(13, "a refused text is not described", () -> {
      LineFollowerBench bench = with("s7");
      type(bench, "s8;s0");
      loadWrong(bench);
      same("s7", Due.described(bench));
    });
  }

  private void curvatureSteps() {
    Supplier<LineFollowerBench> bend = loaded("s99;s99;b99:50");
    answers(14, "step 0, the first one", 0, bend, b -> b.curvature(0));
    answers(14, "step 199, the last one", 50, bend, b -> b.curvature(199));
    refused(14, "step -1", INDEX, bend, b -> b.curvature(-1));
    refused(14, "step 200, although the track is longer", INDEX, bend, b -> b.curvature(200));
    refused(14, "step of the least int", INDEX, RICH, b -> b.curvature(MIN));
    refused(14, "step of the greatest int", INDEX, RICH, b -> b.curvature(MAX));
    refused(14, "step -1 without a track", INDEX, FRESH, b -> b.curvature(-1));
    refused(14, "step 200 without a track", INDEX, FRESH, b -> b.curvature(200));
    answers(14, "step 0 without a track", 0, FRESH, b -> b.curvature(0));
    answers(14, "step 199 without a track", 0, FRESH, b -> b.curvature(199));
    leavesAll(14, "it leaves all as it is", RICH, b -> b.curvature(3));
    test(14, "steps behind the number of steps of a run", () -> {
      LineFollowerBench bench = with("s5;b9:7", 13, 1);
      is(7, () -> bench.curvature(5));
    });
  }

  private void curved(String name, int wanted, String text, int step) {
    answers(14, name, wanted, loaded(text), b -> b.curvature(step));
  }

  private void curvatures() {
    String track = "s2;b2:7;r3:-10;b1:-50;r4:6";
    curved("the last step before a bend", 0, track, 1);
    curved("the first step of a bend", 7, track, 2);
    curved("the last step of a bend", 7, track, 3);
    curved("the first step of a ramp behind a bend", 0, track, 4);
    curved("the only step of a bend", -50, track, 7);
    curved("the last step of the track", 4, track, 11);
    curved("the first step behind the track", 0, track, 12);
    curved("the last step of all behind the track", 0, track, 199);
    curved("a bend at once", 9, "b1:9", 0);
    curved("behind a bend of one step", 0, "b1:9", 1);
    curved("the greatest curvature", 50, "b5:50", 4);
    curved("the curvature 0", 0, "b5:0", 0);
    curved("the curvature -0", 0, "b5:-0", 0);
    curved("the eighth segment", 3, "s1;s1;s1;s1;s1;s1;s1;b1:3", 7);
    curved("behind the eighth segment", 0, "s1;s1;s1;s1;s1;s1;s1;b1:3", 8);
    curved("a bend behind disturbances", 5, "p0:1*1;b2:5", 1);
  }

  private void ramps() {
    curved("the first step of a ramp", 0, "r3:50", 0);
    curved("the only step of a ramp", 0, "r1:50", 0);
    curved("behind a ramp", 0, "r3:50", 3);
    curved("the last step of the longest ramp", 49, "r99:50", 98);
    curved("the last step of the longest ramp to the other side", -49, "r99:-50", 98);
    curved("a ramp is truncated toward zero", 3, "r3:10", 1);
    curved("a ramp below zero is truncated toward zero", -3, "r3:-10", 1);
    curved("a ramp so flat that it stays 0", 0, "r99:1", 98);
    curved("a ramp below zero so flat that it stays 0", 0, "r99:-1", 98);
    curved("the first step of a ramp behind a ramp", 0, "r2:50;r2:50", 2);
    curved("the second step of a ramp behind a ramp", 25, "r2:50;r2:50", 3);
  }

  private void longTracks() {
    curved("just before a bend at step 198", 0, "s99;s99;b99:50", 197);
    curved("a bend at step 198", 50, "s99;s99;b99:50", 198);
    curved("a bend from step 199 on", 9, "s99;s99;s1;b1:9", 199);
    curved("a bend from step 200 on is not seen", 0, "s99;s99;s2;b1:9", 199);
    curved("the longest track", 0, "s99;s99;s99;s99;s99;s99;s99;b99:9", 199);
  }

  private void pushSteps() {
    Supplier<LineFollowerBench> late = loaded("p199:9*99");
    answers(15, "step 0, the first one", 0, late, b -> b.push(0));
    answers(15, "step 199, the last one", 9, late, b -> b.push(199));
    refused(15, "step -1", INDEX, late, b -> b.push(-1));
    refused(15, "step 200, although the disturbance is longer", INDEX, late, b -> b.push(200));
    refused(15, "step of the least int", INDEX, RICH, b -> b.push(MIN));
    refused(15, "step of the greatest int", INDEX, RICH, b -> b.push(MAX));
    refused(15, "step -1 without disturbances", INDEX, FRESH, b -> b.push(-1));
    refused(15, "step 200 without disturbances", INDEX, FRESH, b -> b.push(200));
    answers(15, "step 0 without disturbances", 0, FRESH, b -> b.push(0));
    answers(15, "step 199 without disturbances", 0, FRESH, b -> b.push(199));
    leavesAll(15, "it leaves all as it is", RICH, b -> b.push(1));
    test(15, "steps behind the number of steps of a run", () -> {
      LineFollowerBench bench = with("p5:7*9", 13, 1);
      is(7, () -> bench.push(5));
    });
  }

  private void pushed(String name, int wanted, String text, int step) {
    answers(15, name, wanted, loaded(text), b -> b.push(step));
  }

  private void pushes() {
    pushed("just before the first step", 0, "p5:7*3", 4);
    pushed("the first step", 7, "p5:7*3", 5);
    pushed("the last step", 7, "p5:7*3", 7);
    pushed("just behind the last step", 0, "p5:7*3", 8);
    pushed("the first step 0", 7, "p0:7*1", 0);
    pushed("behind a length of 1", 0, "p0:7*1", 1);
    pushed("the last step of the greatest length", 7, "p100:7*99", 198);
    pushed("behind the greatest length", 0, "p100:7*99", 199);
    pushed("the greatest length up to step 199", 7, "p101:7*99", 199);
    pushed("just before the first step 199", 0, "p199:7*99", 198);
    pushed("the least value", -500, "p0:-500*1", 0);
    pushed("the greatest value", 500, "p0:500*1", 0);
    pushed("the value 0", 0, "p0:0*9", 0);
    pushed("a track does not move it", 7, "s99;p0:7*1;b9:9", 0);
  }

  private void sums() {
    pushed("four disturbances at once", 2000, "p3:500*1;p3:500*1;p3:500*1;p3:500*1", 3);
    pushed("four disturbances at once to the other side", -2000, "p3:-500*1;p3:-500*1;p3:-500*1;p3:-500*1", 3);
    pushed("four disturbances, just before", 0, "p3:500*1;p3:500*1;p3:500*1;p3:500*1", 2);
    pushed("two that take each other away", 0, "p3:500*1;p3:-500*1", 3);
    pushed("the last step before a second one begins", 5, "p0:5*3;p2:-9*2", 1);
    pushed("the last step of the first is the first one of the second", -4, "p0:5*3;p2:-9*2", 2);
    pushed("the first step after the first has ended", -9, "p0:5*3;p2:-9*2", 3);
    pushed("the first step after both have ended", 0, "p0:5*3;p2:-9*2", 4);
    pushed("the fourth one alone", 4, "p0:1*1;p1:2*1;p2:3*1;p3:4*1", 3);
  }
}
