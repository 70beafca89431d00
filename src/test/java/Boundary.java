import java.util.HashMap;
import java.util.HashSet;
import java.util.List;
import java.util.Map;
import java.util.NoSuchElementException;
import java.util.Set;
import java.util.function.Supplier;
import java.util.function.ToLongFunction;

/**
 * Tests of boundary cases: each is a test of its own, named after its promise's number and the case, and begins with
 * benches of its own.
 */
abstract class Boundary {
  static final Class<IndexOutOfBoundsException> INDEX = IndexOutOfBoundsException.class;
  static final Class<IllegalArgumentException> ARGUMENT = IllegalArgumentException.class;
  static final Class<IllegalStateException> STATE = IllegalStateException.class;
  static final Class<NoSuchElementException> ELEMENT = NoSuchElementException.class;
  static final int MIN = Integer.MIN_VALUE;
  static final int MAX = Integer.MAX_VALUE;
  static final Supplier<LineFollowerBench> FRESH = LineFollowerBench::new;
  static final Supplier<LineFollowerBench> RICH = Boundary::rich;

  private final Due due = new Due(getClass().getSimpleName());
  private final Map<Integer, Integer> counts = new HashMap<>();
  private final Set<String> names = new HashSet<>();
  private String name = "";

  abstract void tests();

  /** Runs the tests; each of the promises must have some, and no other one any. */
  final void runAll(int first, int last) {
    tests();
    int all = 0;
    for (int promise = first; promise <= last; promise++) {
      int count = counts.getOrDefault(promise, 0);
      due.compare("promise " + promise + " has boundary tests", "true", "" + (count > 0));
      System.out.println("promise " + promise + ": " + count + " boundary tests");
      all += count;
    }
    due.compare("boundary tests in all", "" + names.size(), "" + all);
    due.end();
  }

  final void test(int promise, String boundary, Runnable body) {
    name = "promise " + promise + ": " + boundary;
    due.compare("a name of its own, " + name, "true", "" + names.add(name));
    counts.merge(promise, 1, Integer::sum);
    int before = due.looked();
    try {
      body.run();
    } catch (RuntimeException e) {
      due.compare(name, "no exception", e.toString());
    }
    due.compare("answers looked at, " + name, "true", "" + (due.looked() > before));
  }

  // ---- inside of a test ----

  final void is(long wanted, Due.Call call) {
    due.is(name, wanted, call);
  }

  final void fails(Class<? extends RuntimeException> wanted, Due.Call call) {
    due.fails(name, wanted, call);
  }

  final void same(String wanted, String got) {
    due.compare(name, wanted, got);
  }

  /** The aspects are those of a twin; there is a pair of twins for each of them. */
  final void sameState(List<String> aspects, Supplier<LineFollowerBench> wanted, Supplier<LineFollowerBench> got) {
    for (String aspect : aspects) {
      due.compare(name + ", " + aspect, Probe.of(aspect, wanted.get()), Probe.of(aspect, got.get()));
    }
  }

  // ---- whole tests ----

  /** The call answers what is due. */
  final void answers(int promise, String boundary, long wanted, Supplier<LineFollowerBench> bench,
      ToLongFunction<LineFollowerBench> call) {
    test(promise, boundary, () -> {
      LineFollowerBench one = bench.get();
      is(wanted, () -> call.applyAsLong(one));
    });
  }

  /** The call throws just this exception, and leaves all as it is in a twin of which it was not asked. */
  final void refused(int promise, String boundary, Class<? extends RuntimeException> wanted,
      Supplier<LineFollowerBench> bench, ToLongFunction<LineFollowerBench> call) {
    test(promise, boundary, () -> sameState(Probe.ASPECTS, bench, () -> {
      LineFollowerBench one = bench.get();
      fails(wanted, () -> call.applyAsLong(one));
      return one;
    }));
  }

  /** The call throws nothing, and leaves all as it is in a twin of which it was not asked, but for these aspects. */
  final void leavesAll(int promise, String boundary, Supplier<LineFollowerBench> bench,
      ToLongFunction<LineFollowerBench> call, String... changed) {
    test(promise, boundary, () -> sameState(Probe.without(changed), bench, () -> {
      LineFollowerBench one = bench.get();
      call.applyAsLong(one);
      return one;
    }));
  }

  // ---- benches ----

  static Supplier<LineFollowerBench> loaded(String text) {
    return () -> {
      LineFollowerBench bench = new LineFollowerBench();
      type(bench, text);
      bench.load();
      return bench;
    };
  }

  /** A bench with a track and with settings, given as number, value, number, value .. */
  static LineFollowerBench with(String text, int... settings) {
    LineFollowerBench bench = text.isEmpty() ? new LineFollowerBench() : loaded(text).get();
    for (int k = 0; k < settings.length; k += 2) {
      bench.set(settings[k], settings[k + 1]);
    }
    return bench;
  }

  static LineFollowerBench ran(String text, int... settings) {
    LineFollowerBench bench = with(text, settings);
    bench.run();
    return bench;
  }

  /** Appends a text, four characters a call. */
  static void type(LineFollowerBench bench, String text) {
    for (int at = 0; at < text.length(); at += 4) {
      int packed = 0;
      for (int k = at; k < at + 4 && k < text.length(); k++) {
        packed = packed << 8 | text.charAt(k);
      }
      bench.append(packed);
    }
  }

  static String points(LineFollowerBench bench) {
    StringBuilder text = new StringBuilder();
    for (int k = 0; k < bench.count(2); k++) {
      text.append(k == 0 ? "" : " ").append(bench.point(k, 0)).append('=').append(bench.point(k, 1));
    }
    return text.toString();
  }

  /** A bench in which everything is there that a refused call could spoil. */
  static LineFollowerBench rich() {
    LineFollowerBench bench = with("s2;b3:-7;r5:20;p1:-90*2;p2:60*1",
        12, 60, 13, 4, 3, 20, 4, 15, 1, 3, 2, 20, 14, 10);
    bench.setPoint(-100, -300);
    bench.setPoint(40, 250);
    for (int part = 0; part < 5; part++) {
      bench.setWeight(part, new int[] {2, 3, 5, 7, 11}[part]);
    }
    bench.setGrid(0, 8, 40, 3);
    bench.setGrid(1, 4, 2, 2);
    bench.setGrid(2, 20, 90, 2);
    bench.run();
    bench.hold();
    bench.save();
    bench.search();
    bench.setGrid(0, 9, 40, 3);
    bench.climb();
    type(bench, "s1;x");
    loadWrong(bench);
    bench.set(12, -45);
    bench.setPoint(300, 77);
    bench.removePoint(-100);
    bench.setWeight(2, 6);
    bench.setGrid(1, 1, 3, 2);
    bench.run();
    bench.apply(false);
    type(bench, "s7;b5:1");
    return bench;
  }

  static void loadWrong(LineFollowerBench bench) {
    try {
      bench.load();
    } catch (IllegalArgumentException e) {
      return;
    }
    throw new IllegalStateException("the text should have been wrong");
  }
}
