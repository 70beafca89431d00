/** Boundary cases of promises 11 and 12: load and the error position. */
public final class BoundaryTextTest extends Boundary {
  private static final String EIGHT = "s1;s1;s1;s1;s1;s1;s1;s1";
  private static final String FOUR = "p0:1*1;p0:1*1;p0:1*1;p0:1*1";

  public static void main(String[] args) {
    new BoundaryTextTest().runAll(11, 12);
  }

  @Override
  void tests() {
    rightSegments();
    rightDisturbances();
    rightCounts();
    earlyEnds();
    wrongSigns();
    wrongRanges();
    wrongNumbers();
    wrongCounts();
    severalErrors();
    buffers();
    replaced();
    leaving();
    positions();
  }

  /** The text is read, with so many parts, and described like this. */
  private void right(String name, String text, int parts, String described) {
    test(11, name + ", " + text, () -> {
      LineFollowerBench bench = with("r9:-9;p9:9*9");
      type(bench, text);
      is(parts, bench::load);
      same(described, Due.described(bench));
      is(0, () -> bench.count(5));
      is(2, () -> bench.count(6));
    });
    test(12, name + ", " + text, () -> {
      LineFollowerBench bench = new LineFollowerBench();
      type(bench, text);
      bench.load();
      is(-1, bench::errorPosition);
    });
  }

  private void right(String name, String text) {
    right(name, text, 1, text);
  }

  /** The text is refused with the error at this position, and leaves all but the buffer. */
  private void wrong(String name, String text, int position) {
    test(11, name + ", " + text, () -> {
      sameState(Probe.without("error position"), BoundaryTextTest::richWithoutBuffer, () -> {
        LineFollowerBench bench = richWithoutBuffer();
        type(bench, text);
        fails(ARGUMENT, bench::load);
        return bench;
      });
    });
    test(12, name + ", " + text, () -> {
      LineFollowerBench bench = new LineFollowerBench();
      type(bench, text);
      fails(ARGUMENT, bench::load);
      is(position, bench::errorPosition);
    });
  }

  private static LineFollowerBench richWithoutBuffer() {
    LineFollowerBench bench = rich();
    bench.load();
    bench.undo();
    return bench;
  }

  private void rightSegments() {
    right("the least length", "s1");
    right("the greatest length", "s99");
    right("one digit more than the least length", "s10");
    for (String letter : new String[] {"b", "r"}) {
      right("the least length", letter + "1:7");
      right("the greatest length", letter + "99:7");
      right("the least curvature", letter + "9:-50");
      right("the greatest curvature", letter + "9:50");
      right("the curvature 0", letter + "9:0");
      right("the curvature -0", letter + "9:-0", 1, letter + "9:0");
      right("the curvature -1", letter + "9:-1");
    }
  }

  private void rightDisturbances() {
    right("the least first step", "p0:7*5");
    right("the greatest first step", "p199:7*5");
    right("the least value", "p9:-500*5");
    right("the greatest value", "p9:500*5");
    right("the value 0", "p9:0*5");
    right("the value -0", "p9:-0*5", 1, "p9:0*5");
    right("the least length", "p9:7*1");
    right("the greatest length", "p9:7*99");
  }

  private void rightCounts() {
    right("eight segments", EIGHT, 8, EIGHT);
    right("four disturbances", FOUR, 4, FOUR);
    right("a disturbance behind eight segments", EIGHT + ";p0:1*1", 9, EIGHT + ";p0:1*1");
    right("eight segments and three disturbances", EIGHT + FOUR.substring(6), 11, EIGHT + FOUR.substring(6));
    right("a segment behind four disturbances", FOUR + ";s1", 5, "s1;" + FOUR);
    right("four disturbances and seven segments", FOUR + EIGHT.substring(2), 11, EIGHT.substring(3) + ";" + FOUR);
    right("an eighth segment behind disturbances", "p0:1*1;" + EIGHT.substring(3) + ";r2:3", 9,
        EIGHT.substring(3) + ";r2:3;p0:1*1");
    String fifty = "p199:-500*99;p199:-500*99;p199:-500*99;b99:-50;s99";
    right("50 characters", fifty, 5, "b99:-50;s99;p199:-500*99;p199:-500*99;p199:-500*99");
  }

  private void earlyEnds() {
    wrong("the empty text", "", 0);
    wrong("behind a separator", "s1;", 3);
    wrong("behind the letter s", "s", 1);
    for (String letter : new String[] {"b", "r"}) {
      wrong("behind the letter", letter, 1);
      wrong("behind the length", letter + "12", 3);
      wrong("behind the colon", letter + "1:", 3);
      wrong("behind the minus", letter + "1:-", 4);
    }
    wrong("behind the letter p", "p", 1);
    wrong("behind the first step", "p12", 3);
    wrong("behind the colon", "p0:", 3);
    wrong("behind the minus", "p0:-", 4);
    wrong("behind the value", "p0:-12", 6);
    wrong("behind the star", "p0:1*", 5);
    wrong("behind 50 characters", "p199:-500*99;p199:-500*99;p199:-500*99;b99:-50;s9;", 50);
    wrong("behind eight segments and a separator", EIGHT + ";", 24);
    wrong("behind four disturbances and a separator", FOUR + ";", 28);
  }

  private void wrongSigns() {
    wrong("a separator in front", ";s1", 0);
    wrong("two separators", "s1;;s1", 3);
    wrong("a separator alone", ";", 0);
    wrong("a letter that is none", "x1", 0);
    wrong("a great letter", "S1", 0);
    wrong("a number without a letter", "1", 0);
    wrong("a sign for a length", "s-1", 1);
    wrong("a letter for a length", "ss", 1);
    wrong("a colon behind a straight segment", "s1:0", 2);
    wrong("no separator", "s1s1", 2);
    wrong("the least sign of the buffer", "s1!", 2);
    wrong("the greatest sign of the buffer", "s1~", 2);
    wrong("the sign before the digits", "s/", 1);
    wrong("the sign behind the digits", "s:", 1);
    for (String letter : new String[] {"b", "r"}) {
      wrong("no length", letter + ":1", 1);
      wrong("no curvature", letter + "1;", 2);
      wrong("no number behind the colon", letter + "1:;", 3);
      wrong("no number behind the minus", letter + "1:-;", 4);
      wrong("two minuses", letter + "1:--1", 4);
      wrong("a plus", letter + "1:+1", 3);
      wrong("a star", letter + "1:1*1", 4);
    }
    wrong("a sign for a first step", "p-1:1*1", 1);
    wrong("a star for a colon", "p0*1:1", 2);
    wrong("a colon for a star", "p0:1:1", 4);
    wrong("two minuses", "p0:--1*1", 4);
    wrong("a sign for a length", "p0:1*-1", 5);
    wrong("a letter for a length", "p0:1*x", 5);
    wrong("no length", "p0:1;", 4);
    wrong("a star behind a disturbance", "p0:1*1*", 6);
  }

  private void wrongRanges() {
    wrong("length just too low", "s0", 1);
    wrong("length just too great", "s100", 1);
    wrong("the greatest number as a length", "s999", 1);
    for (String letter : new String[] {"b", "r"}) {
      wrong("length just too low", letter + "0:1", 1);
      wrong("length just too great", letter + "100:1", 1);
      wrong("curvature just too great", letter + "1:51", 3);
      wrong("curvature just too low, at its first digit", letter + "1:-51", 4);
      wrong("the greatest number as a curvature", letter + "1:999", 3);
      wrong("the least number as a curvature", letter + "1:-999", 4);
    }
    wrong("first step just too great", "p200:1*1", 1);
    wrong("the greatest number as a first step", "p999:1*1", 1);
    wrong("value just too great", "p0:501*1", 3);
    wrong("value just too low, at its first digit", "p0:-501*1", 4);
    wrong("length just too low", "p0:1*0", 5);
    wrong("length just too great", "p0:1*100", 5);
    wrong("out of range in a later part", "s9;s100", 4);
    wrong("out of range, and the text ends", "s1;b0", 4);
  }

  private void wrongNumbers() {
    wrong("a digit behind 0 in a length, which is out of range", "s01", 1);
    wrong("0 and 0 as a length", "s00", 1);
    wrong("four digits of a length, the first three out of range", "s1000", 1);
    wrong("a digit behind a first step of 0", "p01:1*1", 2);
    wrong("0 and 0 as a first step", "p00:1*1", 2);
    wrong("four digits of a first step, the first three in range", "p1990:1*1", 4);
    wrong("four digits of a first step, the first three out of range", "p2000:1*1", 1);
    wrong("a digit behind a curvature of 0", "b1:05", 4);
    wrong("a digit behind a curvature of -0", "b1:-05", 5);
    wrong("0 and 0 as a curvature", "b1:00", 4);
    wrong("-0 and 0 as a curvature", "b1:-00", 5);
    wrong("four digits of a curvature, the first three out of range", "b1:1000", 3);
    wrong("a digit behind a value of 0", "p0:01*1", 4);
    wrong("a digit behind a value of -0", "p0:-01*1", 5);
    wrong("four digits of a value, the first three in range", "p0:5000*1", 6);
    wrong("four digits of a value below 0, the first three in range", "p0:-5000*1", 7);
    wrong("four digits of a value, the first three out of range", "p0:5010*1", 3);
    wrong("a digit behind a length of 0", "p0:1*01", 5);
    wrong("a number that would wrap around", "s4294967297", 1);
    wrong("a value that would wrap around", "p0:4294967297*1", 6);
  }

  private void wrongCounts() {
    wrong("a ninth segment", EIGHT + ";s1", 24);
    wrong("a ninth segment comes before what is wrong in it", EIGHT + ";s0", 24);
    wrong("a ninth segment comes before the end of the text", EIGHT + ";r", 24);
    wrong("a ninth segment of another kind", EIGHT + ";b1:1", 24);
    wrong("a ninth segment behind disturbances", EIGHT + ";p0:1*1;s1", 31);
    wrong("a ninth segment at last", "p0:1*1;" + EIGHT + ";r1:1", 31);
    wrong("no segment and no disturbance behind eight", EIGHT + ";x", 24);
    wrong("a disturbance behind eight segments that is wrong", EIGHT + ";p0:1*0", 29);
    wrong("a fifth disturbance", FOUR + ";p0:1*1", 28);
    wrong("a fifth disturbance comes before what is wrong in it", FOUR + ";p200", 28);
    wrong("a fifth disturbance comes before the end of the text", FOUR + ";p", 28);
    wrong("a fifth disturbance behind segments", "s1;" + FOUR + ";s1;p0:1*1", 34);
    wrong("a segment behind four disturbances that is wrong", FOUR + ";s0", 29);
  }

  private void severalErrors() {
    wrong("out of range comes before what follows it", "s100x", 1);
    wrong("out of range comes before a missing separator", "s0s0", 1);
    wrong("curvature out of range comes before what follows it", "b1:51x", 3);
    wrong("length out of range comes before curvature out of range", "b100:51", 1);
    wrong("first step out of range comes before the other ones", "p200:501*100", 1);
    wrong("value out of range comes before length out of range", "p0:501*100", 3);
    wrong("the first of two wrong parts", "x;s0", 0);
    wrong("the first of two parts out of range", "s0;s0", 1);
    wrong("a wrong sign comes before a ninth segment", "s1,s1;s1;s1;s1;s1;s1;s1;s1", 2);
    wrong("a ninth segment comes before a fifth disturbance", EIGHT + ";s1;p0:1*1;p0:1*1", 24);
  }

  private void buffers() {
    test(11, "the empty buffer of a new object is refused", () -> {
      LineFollowerBench bench = new LineFollowerBench();
      fails(ARGUMENT, bench::load);
      is(0, () -> bench.count(0));
      is(0, () -> bench.count(6));
    });
    test(11, "a second load has nothing to read", () -> {
      LineFollowerBench bench = with("s5");
      fails(ARGUMENT, bench::load);
      same("s5", Due.described(bench));
    });
    test(11, "a refused text is not there for the next one", () -> {
      LineFollowerBench bench = new LineFollowerBench();
      type(bench, "s0;");
      fails(ARGUMENT, bench::load);
      type(bench, "s7");
      is(1, bench::load);
      same("s7", Due.described(bench));
    });
    test(11, "a short text behind a long one", () -> {
      LineFollowerBench bench = with("b99:-50;r99:-50;p199:-500*99");
      type(bench, "s1");
      is(1, bench::load);
      same("s1", Due.described(bench));
    });
    test(11, "the buffer of 50 characters is empty after a refused text", () -> {
      LineFollowerBench bench = new LineFollowerBench();
      type(bench, "s".repeat(50));
      fails(ARGUMENT, bench::load);
      is(0, () -> bench.count(5));
    });
  }

  private void replaced() {
    test(11, "a text without disturbances leaves none", () -> {
      LineFollowerBench bench = with("s1;p0:1*9");
      type(bench, "s2");
      is(1, bench::load);
      is(0, () -> bench.count(1));
      is(0, () -> bench.push(0));
    });
    test(11, "a text without segments leaves none", () -> {
      LineFollowerBench bench = with("b9:9;p0:1*9");
      type(bench, "p1:2*3");
      is(1, bench::load);
      is(0, () -> bench.count(0));
      is(0, () -> bench.count(4));
      is(0, () -> bench.curvature(0));
    });
    test(11, "the same text again is a change", () -> {
      LineFollowerBench bench = with("s5");
      type(bench, "s5");
      is(1, bench::load);
      is(2, () -> bench.count(6));
    });
    test(11, "it leaves the settings, the table, the weights and the grid", () -> {
      LineFollowerBench bench = rich();
      bench.load();
      is(-45, () -> bench.setting(12));
      same("40=250 300=77", points(bench));
      is(6, () -> bench.setWeight(2, 0));
      is(12, () -> bench.count(3));
    });
    test(11, "it leaves the trace, the held one and what was found", () -> {
      LineFollowerBench twin = rich();
      LineFollowerBench bench = rich();
      bench.load();
      same(Due.row(twin, 0), Due.row(bench, 0));
      is(twin.compare(0), () -> bench.compare(0));
      is(twin.foundCost(false), () -> bench.foundCost(false));
      is(twin.foundCost(true), () -> bench.foundCost(true));
    });
  }

  private void leaving() {
    leavesAll(11, "a right text changes nothing else", RICH, LineFollowerBench::load,
        "track", "text", "error position", "past", "run");
    leavesAll(11, "the empty text changes nothing else", BoundaryTextTest::richWithoutBuffer, b -> {
      loadWrong(b);
      return 0;
    }, "error position");
  }

  private void positions() {
    answers(12, "load was not called", -1, FRESH, LineFollowerBench::errorPosition);
    answers(12, "a text that was not loaded yet", -1, () -> {
      LineFollowerBench bench = new LineFollowerBench();
      type(bench, "x");
      return bench;
    }, LineFollowerBench::errorPosition);
    answers(12, "it stays through all later calls", 3, RICH, LineFollowerBench::errorPosition);
    leavesAll(12, "it leaves all as it is", RICH, LineFollowerBench::errorPosition);
    test(12, "a right text after a wrong one", () -> {
      LineFollowerBench bench = rich();
      bench.load();
      is(-1, bench::errorPosition);
    });
    test(12, "a wrong text after a right one", () -> {
      LineFollowerBench bench = with("s5");
      type(bench, "s5;s0");
      fails(ARGUMENT, bench::load);
      is(4, bench::errorPosition);
    });
    test(12, "the empty text after a wrong one", () -> {
      LineFollowerBench bench = rich();
      bench.load();
      fails(ARGUMENT, bench::load);
      is(0, bench::errorPosition);
    });
    test(12, "a refused append leaves it", () -> {
      LineFollowerBench bench = rich();
      fails(ARGUMENT, () -> bench.append(1));
      is(3, bench::errorPosition);
    });
    test(12, "undo of a load leaves it", () -> {
      LineFollowerBench bench = rich();
      bench.load();
      bench.undo();
      is(-1, bench::errorPosition);
    });
    test(12, "restore leaves it", () -> {
      LineFollowerBench bench = rich();
      bench.restore();
      is(3, bench::errorPosition);
    });
  }
}
