/** Promises 10 to 13: the buffer, load, the error position and the description. */
public final class TextTest {
  private static final Due due = new Due("TextTest");

  public static void main(String[] args) {
    appending();
    rightTexts();
    wrongTexts();
    counts();
    buffer();
    due.end();
  }

  private static void appending() {
    LineFollowerBench bench = new LineFollowerBench();
    due.is("promise 10: nothing", 0, () -> bench.append(0));
    due.is("promise 10: first and last byte", 2, () -> bench.append('s' << 24 | '5'));
    due.is("promise 10: the two in between", 4, () -> bench.append(';' << 16 | 'b' << 8));
    due.is("promise 10: four", 8, () -> bench.append('3' << 24 | ':' << 16 | '-' << 8 | '7'));
    bench.load();
    due.compare("promise 10: order of the bytes", "s5;b3:-7", Due.described(bench));
    int[] wrong = {32, 127, 1, 255, 128, 32 << 24, 127 << 16, 0x80000000, 's' << 24 | 10, -1};
    for (int packed : wrong) {
      due.fails("promise 10: " + packed, IllegalArgumentException.class, () -> bench.append(packed));
    }
    due.is("promise 10: wrong bytes append nothing", 0, () -> bench.count(5));
    due.is("promise 10: least and greatest", 2, () -> bench.append(33 << 8 | 126));
    for (int k = 0; k < 12; k++) {
      bench.append(0x21212121);
    }
    due.is("promise 10: full", 50, () -> bench.count(5));
    due.is("promise 10: nothing to a full one", 50, () -> bench.append(0));
    due.fails("promise 10: too many", IllegalStateException.class, () -> bench.append('s'));
    due.fails("promise 10: bad and too many", IllegalArgumentException.class, () -> bench.append(31));
    due.is("promise 10: no change", 1, () -> bench.count(6));
    LineFollowerBench other = new LineFollowerBench();
    Due.type(other, "s".repeat(48));
    due.fails("promise 10: three to 48", IllegalStateException.class, () -> other.append(0x21002121));
    due.is("promise 10: none of them is appended", 48, () -> other.count(5));
    due.is("promise 10: two to 48", 50, () -> other.append(0x21000021));
  }

  private static void rightTexts() {
    String[] texts = {"s1", "s99", "b1:0", "b99:-50", "r99:50", "p0:0*1", "p199:-500*99", "p199:500*9",
      "s10;b9:7;r1:-1;p5:-9*2", "s1;s1;s1;s1;s1;s1;s1;s1;p0:0*1;p0:0*1;p0:0*1"};
    int[] parts = {1, 1, 1, 1, 1, 1, 1, 1, 4, 11};
    for (int k = 0; k < texts.length; k++) {
      LineFollowerBench bench = new LineFollowerBench();
      Due.type(bench, texts[k]);
      due.is("promise 11: " + texts[k], parts[k], bench::load);
      due.compare("promise 13: " + texts[k], texts[k], Due.described(bench));
      due.is("promise 12: " + texts[k], -1, bench::errorPosition);
      due.is("promise 11: the buffer is empty", 0, () -> bench.count(5));
      due.fails("promise 13: behind the end", IndexOutOfBoundsException.class,
          () -> bench.describe(bench.describe(-1)));
      due.fails("promise 13: -2", IndexOutOfBoundsException.class, () -> bench.describe(-2));
    }
    due.compare("promise 13: segments before disturbances", "s1;r2:3;p1:-1*1;p2:0*2",
        Due.described(Due.loaded("p1:-1*1;s1;p2:-0*2;r2:3")));
    due.compare("promise 13: minus zero", "b1:0", Due.described(Due.loaded("b1:-0")));
    due.fails("promise 13: empty", IndexOutOfBoundsException.class, () -> new LineFollowerBench().describe(0));
    LineFollowerBench twice = Due.loaded("s5;p1:1*1");
    Due.type(twice, "p3:3*3");
    due.is("promise 11: a second text", 1, twice::load);
    due.compare("promise 11: replaces all", "p3:3*3", Due.described(twice));
  }

  /** Texts with the error position that is due. */
  private static void wrongTexts() {
    String[] texts = {"", "x", "S1", "s", "s0", "s01", "s00", "s100", "s999", "s1000", "sx", "s-1", "s1x",
      "s1:", "s1;", "s1;;", ";", "s1;x", "b", "b0:1", "b100:60", "b1", "b1;", "b1:", "b1:;", "b1:-", "b1:--1",
      "b1:51", "b1:-51", "b1:-510", "b1:501", "b1:01", "b1:-01", "b1:00", "b1:5000", "b1:1x", "b1:+1",
      "r", "r5:-x", "r5:51;", "p", "p200:1*1", "p01:1*1", "p1000:1*1", "p1", "p1*", "p1:", "p1:-", "p1:501*1",
      "p1:-501*1", "p1:5000*1", "p1:1", "p1:1;", "p1:1*", "p1:1*0", "p1:1*100", "p1:1*-1", "p1:1*1:", "p199:1*x",
      "s5;b3:60;x", "s1;s1;s1;s1;s1;s1;s1;s1;s0", "s1;s1;s1;s1;s1;s1;s1;s1;x", "s1;s1;s1;s1;s1;s1;s1;s1;b1:1",
      "p1:1*1;p1:1*1;p1:1*1;p1:1*1;p999", "p1:1*1;p1:1*1;p1:1*1;p1:1*1;", "s1;s1;s1;s1;s1;s1;s1;s1;r",
      "s1;s1;s1;s1;s1;s1;s1;s1;p1:1*1;s1", "s1!", "s99;b99:99"};
    int[] positions = {0, 0, 0, 1, 1, 1, 1, 1, 1, 1, 1, 1, 2,
      2, 3, 3, 0, 3, 1, 1, 1, 2, 2, 3, 3, 4, 4,
      3, 4, 4, 3, 4, 5, 4, 3, 4, 3,
      1, 4, 3, 1, 1, 2, 4, 2, 2, 3, 4, 3,
      4, 6, 4, 4, 5, 5, 5, 5, 6, 7,
      6, 24, 24, 24,
      28, 28, 24,
      31, 2, 8};
    if (texts.length != positions.length) {
      throw new IllegalStateException(texts.length + " texts, " + positions.length + " positions");
    }
    for (int k = 0; k < texts.length; k++) {
      LineFollowerBench bench = Due.loaded("b7:-3;p4:5*6");
      Due.type(bench, texts[k]);
      due.fails("promise 11: " + texts[k], IllegalArgumentException.class, bench::load);
      due.is("promise 12: " + texts[k], positions[k], bench::errorPosition);
      due.compare("promise 11: the track stays", "b7:-3;p4:5*6", Due.described(bench));
      due.is("promise 11: the buffer is empty after an error", 0, () -> bench.count(5));
      due.is("promise 11: an error is no change", 1, () -> bench.count(6));
    }
  }

  private static void counts() {
    LineFollowerBench full = new LineFollowerBench();
    Due.type(full, "p0:1*1;p0:1*1;p0:1*1;p0:1*1;s1;s1;s1;s1;s1;s1");
    due.is("promise 11: four disturbances and six segments", 10, full::load);
    due.is("promise 11: segments", 6, () -> full.count(0));
    due.is("promise 11: disturbances", 4, () -> full.count(1));
  }

  private static void buffer() {
    LineFollowerBench bench = new LineFollowerBench();
    Due.type(bench, "s0");
    due.fails("promise 11: out of range", IllegalArgumentException.class, bench::load);
    due.is("promise 12: the error", 1, bench::errorPosition);
    Due.type(bench, "s1");
    due.is("promise 12: stays until the next load", 1, bench::errorPosition);
    due.is("promise 11: right then", 1, bench::load);
    due.is("promise 12: no error then", -1, bench::errorPosition);
    due.fails("promise 11: the empty text", IllegalArgumentException.class, bench::load);
    due.is("promise 12: ends too early", 0, bench::errorPosition);
  }
}
