import java.util.ArrayList;
import java.util.Arrays;
import java.util.List;

/**
 * What can be seen of a bench, aspect by aspect, as texts. To look at an aspect takes as few of the other calls as can
 * be, so that a call which spoils an aspect is not hidden by the look itself; and it spoils the bench, so that each
 * look needs a bench of its own.
 */
final class Probe {
  static final List<String> ASPECTS = List.of("settings", "table", "weights", "grid", "track", "text",
      "error position", "trace", "measures", "bits", "reasons", "held", "searched", "climbed", "past", "saved", "run");

  private final LineFollowerBench bench;
  private final StringBuilder text = new StringBuilder();

  private Probe(LineFollowerBench bench) {
    this.bench = bench;
  }

  /** All aspects but those that are named. */
  static List<String> without(String... aspects) {
    List<String> rest = new ArrayList<>(ASPECTS);
    if (!rest.removeAll(Arrays.asList(aspects)) && aspects.length > 0) {
      throw new IllegalArgumentException("no such aspects");
    }
    return rest;
  }

  static String of(String aspect, LineFollowerBench bench) {
    Probe probe = new Probe(bench);
    probe.look(aspect);
    return probe.text.toString().trim();
  }

  private void look(String aspect) {
    switch (aspect) {
      case "settings" -> settings();
      case "table" -> table();
      case "weights" -> weights();
      case "grid" -> grid();
      case "track" -> track();
      case "text" -> text();
      case "error position" -> say(bench::errorPosition);
      case "trace" -> trace();
      case "measures" -> measures();
      case "bits" -> bits();
      case "reasons" -> reasons();
      case "held" -> held();
      case "searched" -> found(false);
      case "climbed" -> found(true);
      case "past" -> past();
      case "saved" -> saved();
      case "run" -> run();
      default -> throw new IllegalArgumentException(aspect);
    }
  }

  private long say(Due.Call call) {
    try {
      long answer = call.answer();
      text.append(' ').append(answer);
      return answer;
    } catch (RuntimeException e) {
      text.append(' ').append(e.getClass().getSimpleName());
      return -1;
    }
  }

  private void settings() {
    for (int k = 0; k < 15; k++) {
      int setting = k;
      say(() -> bench.setting(setting));
    }
  }

  private void table() {
    long points = say(() -> bench.count(2));
    for (int k = 0; k < points; k++) {
      int index = k;
      say(() -> bench.point(index, 0));
      say(() -> bench.point(index, 1));
    }
  }

  private void weights() {
    for (int k = 0; k < 5; k++) {
      int part = k;
      say(() -> bench.setWeight(part, 0));
    }
  }

  /** What search and climb find with a track, settings and weights that are always the same. */
  private void grid() {
    say(() -> bench.count(3));
    alwaysTheSame();
    for (int start : new int[] {20, 60}) {
      bench.set(12, start);
      bench.search();
      bench.climb();
      found(false);
      found(true);
    }
  }

  private void alwaysTheSame() {
    if (bench.count(5) > 0) {
      loadAnything();
    }
    Boundary.type(bench, "p0:100*1;p1:-50*1");
    bench.load();
    int[] settings = {64, 0, 0, 1000, 1000, 1, 0, 0, 10000, 16, 0, 50, 100, 4, 20};
    for (int k = 0; k < settings.length; k++) {
      bench.set(k, settings[k]);
    }
    for (int part = 0; part < 5; part++) {
      bench.setWeight(part, part == 0 ? 9 : 0);
    }
  }

  private void loadAnything() {
    try {
      bench.load();
    } catch (IllegalArgumentException e) {
      return;
    }
  }

  private void track() {
    say(() -> bench.count(0));
    say(() -> bench.count(1));
    say(() -> bench.count(4));
    description();
    for (int k = 0; k < 20; k++) {
      int step = k;
      say(() -> bench.curvature(step));
      say(() -> bench.push(step));
    }
  }

  private void description() {
    long length = say(() -> bench.describe(-1));
    text.append(' ');
    for (int k = 0; k < length; k++) {
      text.append((char) bench.describe(k));
    }
  }

  private void text() {
    say(() -> bench.count(5));
    boolean isRight = say(bench::load) > 0;
    say(bench::errorPosition);
    if (isRight) {
      description();
    }
  }

  private void trace() {
    long steps = say(() -> bench.count(7));
    for (int what = 0; what < 6; what++) {
      int part = what;
      for (int t = 0; t < Math.min(steps, 5); t++) {
        int step = t;
        say(() -> bench.trace(step, part));
      }
    }
    say(() -> bench.trace((int) steps, 0));
  }

  private void measures() {
    for (int what = 0; what < 8; what++) {
      int measure = what;
      say(() -> bench.measure(measure));
    }
    say(bench::cost);
  }

  private void bits() {
    say(bench::meanSquareBits);
    say(bench::saturatedBits);
  }

  private void reasons() {
    for (int k = 0; k < 4; k++) {
      int step = k;
      say(() -> bench.reason(step));
    }
  }

  /** Compared with a run that is always the same. */
  private void held() {
    alwaysTheSame();
    bench.set(12, -60);
    bench.run();
    for (int what = 0; what < 3; what++) {
      int comparison = what;
      say(() -> bench.compare(comparison));
    }
    say(bench::hold);
  }

  private void found(boolean climbed) {
    for (int what = 0; what < 4; what++) {
      int part = what;
      say(() -> bench.found(climbed, part));
    }
    say(() -> bench.foundCost(climbed));
  }

  private void past() {
    long changes = say(() -> bench.count(6));
    for (int k = 0; k < changes; k++) {
      say(bench::undo);
      present();
    }
    say(bench::undo);
  }

  private void saved() {
    if (say(bench::restore) < 0) {
      return;
    }
    table();
    track();
    present();
    weights();
    grid();
  }

  /** What changes concern: the weights are seen by the cost of a run. */
  private void present() {
    settings();
    say(() -> bench.describe(-1));
    say(() -> bench.count(2));
    say(() -> bench.table(50));
    say(() -> bench.count(3));
    say(bench::run);
    say(bench::cost);
  }

  private void run() {
    say(bench::run);
    trace();
  }
}
