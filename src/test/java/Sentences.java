import java.util.LinkedHashMap;
import java.util.Map;
import java.util.NoSuchElementException;
import java.util.function.Consumer;

/**
 * The document's sentences, one after the other: what one says is looked at on a new bench, and on benches that had
 * other calls before, which left the settings, the table, the weights, the grid and the track as they are at first.
 */
abstract class Sentences {
  static final Class<IndexOutOfBoundsException> INDEX = IndexOutOfBoundsException.class;
  static final Class<IllegalArgumentException> ARGUMENT = IllegalArgumentException.class;
  static final Class<IllegalStateException> STATE = IllegalStateException.class;
  static final Class<NoSuchElementException> ELEMENT = NoSuchElementException.class;

  private static final String WILD = "s3;r20:-50;b9:33;p0:-500*99;p7:444*2";

  private final Due due = new Due(getClass().getSimpleName());
  private final Map<String, Consumer<LineFollowerBench>> pasts = new LinkedHashMap<>();
  private String name = "";
  private int sentences = 0;

  Sentences() {
    pasts.put("no call", bench -> { });
    pasts.put("refused calls", Sentences::refuse);
    pasts.put("changes that were taken back", Sentences::takeBack);
    pasts.put("a restored snapshot", Sentences::restore);
    pasts.put("runs of other lengths", Sentences::runOthers);
    pasts.put("tuning and its gains taken back", Sentences::tune);
  }

  abstract void sentences();

  final void all() {
    for (Map.Entry<String, Consumer<LineFollowerBench>> past : pasts.entrySet()) {
      LineFollowerBench bench = new LineFollowerBench();
      past.getValue().accept(bench);
      due.compare("the first state after " + past.getKey(), firstState(new LineFollowerBench()), firstState(bench));
    }
    sentences();
    System.out.println(getClass().getSimpleName() + ": " + sentences + " sentences, each after " + pasts.size()
        + " pasts");
    due.end();
  }

  /** What the words say holds after each of the pasts. */
  final void sentence(String words, Consumer<LineFollowerBench> body) {
    sentences++;
    for (Map.Entry<String, Consumer<LineFollowerBench>> past : pasts.entrySet()) {
      name = "\"" + words + "\", after " + past.getKey();
      LineFollowerBench bench = new LineFollowerBench();
      int before = due.looked();
      try {
        past.getValue().accept(bench);
        body.accept(bench);
      } catch (RuntimeException e) {
        due.compare(name, "no exception", e.toString());
      }
      due.compare("answers looked at, " + name, "true", "" + (due.looked() > before));
    }
  }

  // ---- inside of a sentence ----

  final void is(long wanted, Due.Call call) {
    due.is(name, wanted, call);
  }

  final void fails(Class<? extends RuntimeException> wanted, Due.Call call) {
    due.fails(name, wanted, call);
  }

  final void same(String wanted, String got) {
    due.compare(name, wanted, got);
  }

  /** Makes a run and looks at one part of its trace. */
  final void row(LineFollowerBench bench, int part, String wanted) {
    bench.run();
    same(wanted, Due.row(bench, part));
  }

  /** Settings, given as number, value, number, value .. */
  static void set(LineFollowerBench bench, int... settings) {
    for (int k = 0; k + 1 < settings.length; k += 2) {
      bench.set(settings[k], settings[k + 1]);
    }
  }

  static void load(LineFollowerBench bench, String text) {
    Boundary.type(bench, text);
    bench.load();
  }

  final void wrong(LineFollowerBench bench, String text, int position) {
    Boundary.type(bench, text);
    fails(ARGUMENT, bench::load);
    is(position, bench::errorPosition);
  }

  // ---- pasts ----

  private static String firstState(LineFollowerBench bench) {
    StringBuilder text = new StringBuilder();
    for (int number = 0; number < 15; number++) {
      text.append(bench.setting(number)).append(' ');
    }
    text.append(Boundary.points(bench)).append(Due.described(bench)).append(bench.count(5)).append(' ');
    for (int part = 0; part < 5; part++) {
      text.append(bench.setWeight(part, 0)).append(' ');
    }
    for (int gain = 0; gain < 3; gain++) {
      text.append(bench.setGrid(gain, 0, 1, 1)).append(' ');
    }
    return text.toString();
  }

  private static void refused(Due.Call call) {
    try {
      call.answer();
    } catch (RuntimeException e) {
      return;
    }
    throw new UnsupportedOperationException("the call should have been refused");
  }

  private static void refuse(LineFollowerBench bench) {
    refused(() -> bench.set(15, 0));
    refused(() -> bench.set(12, 2001));
    refused(() -> bench.setting(-1));
    refused(() -> bench.setPoint(10001, 5));
    refused(() -> bench.removePoint(0));
    refused(() -> bench.point(0, 0));
    refused(() -> bench.table(10001));
    refused(() -> bench.setWeight(0, 100));
    refused(() -> bench.setGrid(1, 999, 1, 2));
    refused(() -> bench.append('s' << 8 | 127));
    refused(bench::load);
    Boundary.type(bench, WILD + ";p1:5*1;x");
    refused(bench::load);
    refused(() -> bench.describe(0));
    refused(() -> bench.curvature(200));
    refused(() -> bench.push(200));
    refused(() -> bench.trace(0, 0));
    refused(() -> bench.measure(0));
    refused(bench::cost);
    refused(() -> bench.reason(0));
    refused(bench::meanSquareBits);
    refused(bench::saturatedBits);
    refused(bench::hold);
    refused(() -> bench.compare(0));
    refused(() -> bench.found(false, 0));
    refused(() -> bench.foundCost(true));
    refused(() -> bench.apply(true));
    refused(() -> bench.lowest(3, -1));
    refused(() -> bench.count(8));
    refused(bench::undo);
    refused(bench::restore);
  }

  private static void takeBack(LineFollowerBench bench) {
    bench.set(13, 200);
    bench.setPoint(7, -1000);
    bench.setPoint(-9, 1000);
    bench.setWeight(4, 99);
    bench.setGrid(2, 999, 200, 1);
    load(bench, WILD);
    bench.run();
    undo(bench, 6);
    bench.save();
    bench.set(10, 2);
    bench.set(3, 1);
    bench.setPoint(7, 8);
    bench.removePoint(7);
    bench.restore();
    bench.setWeight(0, 0);
    undo(bench, 6);
  }

  private static void undo(LineFollowerBench bench, int times) {
    for (int k = 0; k < times; k++) {
      bench.undo();
    }
  }

  private static void restore(LineFollowerBench bench) {
    bench.save();
    set(bench, 0, 999, 1, 999, 2, 999, 3, 77, 4, 5, 5, 99, 6, 5, 7, 3, 8, 0, 9, 64, 10, 2, 11, 1000, 12, -2000, 14, 0);
    for (int k = 0; k < 5; k++) {
      bench.setPoint(-50 + 20 * k, 900 - 400 * k);
      bench.setWeight(k, 99 - k);
    }
    for (int gain = 0; gain < 3; gain++) {
      bench.setGrid(gain, 500, 100 - gain, 4);
    }
    load(bench, WILD);
    bench.run();
    bench.restore();
  }

  private static void runOthers(LineFollowerBench bench) {
    bench.save();
    load(bench, WILD);
    set(bench, 1, 300, 3, 1000, 13, 200);
    bench.run();
    bench.hold();
    set(bench, 13, 1, 12, -9);
    bench.run();
    set(bench, 13, 137, 6, 5, 10, 1);
    bench.run();
    bench.restore();
  }

  private static void tune(LineFollowerBench bench) {
    bench.save();
    load(bench, WILD);
    bench.setGrid(0, 5, 1, 2);
    bench.setGrid(1, 700, 1, 1);
    bench.search();
    bench.climb();
    bench.apply(false);
    bench.lowest(0, Long.MAX_VALUE);
    bench.apply(true);
    bench.restore();
    bench.set(0, 1);
    bench.apply(true);
    undo(bench, 2);
  }
}
