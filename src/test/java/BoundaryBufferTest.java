import java.util.function.Supplier;

/** Boundary cases of promise 10: the buffer. */
public final class BoundaryBufferTest extends Boundary {
  private static final int[] SHIFTS = {24, 16, 8, 0};

  public static void main(String[] args) {
    new BoundaryBufferTest().runAll(10, 10);
  }

  @Override
  void tests() {
    bytes();
    zeros();
    lengths();
    leaving();
    order();
  }

  /** A buffer of so many characters. */
  private static Supplier<LineFollowerBench> holding(int characters) {
    return () -> {
      LineFollowerBench bench = new LineFollowerBench();
      type(bench, "s".repeat(characters));
      return bench;
    };
  }

  private void bytes() {
    for (int shift : SHIFTS) {
      String place = " as byte " + (3 - shift / 8);
      for (int sign : new int[] {33, 126}) {
        answers(10, sign + place, 1, FRESH, b -> b.append(sign << shift));
      }
      for (int sign : new int[] {1, 32, 127, 128, 255}) {
        refused(10, sign + place, ARGUMENT, RICH, b -> b.append(sign << shift));
        int others = 0x21212121 & ~(255 << shift);
        refused(10, sign + place + ", the other ones right", ARGUMENT, RICH, b -> b.append(others | sign << shift));
      }
    }
    refused(10, "the least int", ARGUMENT, RICH, b -> b.append(MIN));
    refused(10, "the greatest int", ARGUMENT, RICH, b -> b.append(MAX));
    refused(10, "all bytes 255", ARGUMENT, RICH, b -> b.append(-1));
    refused(10, "a new object refuses too", ARGUMENT, FRESH, b -> b.append(32));
  }

  private void zeros() {
    answers(10, "four zeros to an empty buffer", 0, FRESH, b -> b.append(0));
    answers(10, "four zeros to a buffer of seven", 7, RICH, b -> b.append(0));
    leavesAll(10, "four zeros leave all as it is", RICH, b -> b.append(0));
    String[] names = {"three zeros in front", "zeros around", "a zero at the end", "a zero at both ends",
      "two zeros in the middle"};
    int[] packed = {'s', 's' << 16, 's' << 24 | '1' << 16 | '2' << 8, 's' << 16 | '1' << 8, 's' << 24 | '1'};
    int[] lengths = {1, 1, 3, 2, 2};
    for (int k = 0; k < names.length; k++) {
      int word = packed[k];
      answers(10, names[k] + " are skipped", lengths[k], FRESH, b -> b.append(word));
    }
  }

  private void lengths() {
    answers(10, "the 50th character", 50, holding(49), b -> b.append('x'));
    answers(10, "four characters to 46", 50, holding(46), b -> b.append(0x21212121));
    answers(10, "four zeros to a full buffer", 50, holding(50), b -> b.append(0));
    refused(10, "a 51st character", STATE, holding(50), b -> b.append('s'));
    refused(10, "a 51st character as the first byte", STATE, holding(50), b -> b.append('s' << 24));
    refused(10, "two characters to 49", STATE, holding(49), b -> b.append('s' << 24 | 's'));
    refused(10, "three characters to 48", STATE, holding(48), b -> b.append(0x21002121));
    refused(10, "four characters to 47", STATE, holding(47), b -> b.append(0x21212121));
    refused(10, "a wrong byte comes before a full buffer", ARGUMENT, holding(50), b -> b.append(32));
    refused(10, "a wrong byte as the last one comes before a full buffer", ARGUMENT, holding(48),
        b -> b.append(0x21212120));
    test(10, "fewer characters fit after too many were refused", () -> {
      LineFollowerBench bench = holding(48).get();
      fails(STATE, () -> bench.append(0x21212100));
      is(50, () -> bench.append(0x21000021));
    });
    test(10, "one character after a full buffer was loaded", () -> {
      LineFollowerBench bench = holding(50).get();
      loadWrong(bench);
      is(1, () -> bench.append('s'));
    });
    test(10, "it is no change", () -> {
      LineFollowerBench bench = holding(50).get();
      fails(STATE, () -> bench.append('s'));
      is(0, () -> bench.count(6));
    });
  }

  private void leaving() {
    leavesAll(10, "the least character changes nothing else", RICH, b -> b.append(33), "text");
    leavesAll(10, "the 50th character changes nothing else", holding(49), b -> b.append('s'), "text");
  }

  private void order() {
    test(10, "the most significant byte comes first", () -> {
      LineFollowerBench bench = new LineFollowerBench();
      bench.append('s' << 24 | '4' << 16 | '2' << 8 | ';');
      bench.append('b' << 24 | '7');
      bench.append(':' << 16 | '-' << 8);
      bench.append('3');
      bench.load();
      same("s42;b7:-3", Due.described(bench));
    });
    test(10, "the characters stay as they are when a word is refused", () -> {
      LineFollowerBench bench = new LineFollowerBench();
      type(bench, "s4");
      fails(ARGUMENT, () -> bench.append('2' << 24 | 31));
      bench.append('3');
      bench.load();
      same("s43", Due.described(bench));
    });
  }
}
