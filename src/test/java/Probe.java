/**
 * All that can be seen of a bench, as lines: first what calls show that change nothing, then what is brought out by
 * tuning, by taking changes back, by restoring and by loading. The bench is of no use afterwards.
 */
final class Probe {
  /** With what made the bench, this stays below the 512 calls of an object. */
  private static final int CALLS_MOST = 430;

  private final LineFollowerBench bench;
  private final StringBuilder text = new StringBuilder();
  private int calls = 0;

  private Probe(LineFollowerBench bench) {
    this.bench = bench;
  }

  static String of(LineFollowerBench bench) {
    Probe probe = new Probe(bench);
    probe.buffer(probe.count(5));
    probe.line("error position");
    probe.say(bench::errorPosition);
    return probe.all(true);
  }

  /** But for the buffer and the error position. */
  static String withoutText(LineFollowerBench bench) {
    return new Probe(bench).all(false);
  }

  private String all(boolean withText) {
    plain();
    trace();
    comparisons();
    found();
    present("now");
    past();
    if (withText) {
      text();
    }
    if (calls > CALLS_MOST) {
      throw new IllegalStateException(calls + " calls");
    }
    return text.toString();
  }

  private void line(String title) {
    text.append('\n').append(title).append(':');
  }

  private long say(Due.Call call) {
    calls++;
    try {
      long answer = call.answer();
      text.append(' ').append(answer);
      return answer;
    } catch (RuntimeException e) {
      text.append(' ').append(e.getClass().getSimpleName());
      return -1;
    }
  }

  private int count(int what) {
    calls++;
    return bench.count(what);
  }

  private void buffer(int characters) {
    text.append("buffer: ").append(characters);
  }

  private void plain() {
    line("counts");
    for (int what = 0; what < 8; what++) {
      if (what != 5) {
        text.append(' ').append(count(what));
      }
    }
    line("points");
    int points = count(2);
    for (int k = 0; k < points; k++) {
      int index = k;
      say(() -> bench.point(index, 0));
      say(() -> bench.point(index, 1));
    }
    line("description");
    description();
  }

  private void description() {
    long length = say(() -> bench.describe(-1));
    for (int k = 0; k < length; k++) {
      int index = k;
      say(() -> bench.describe(index));
    }
  }

  private void trace() {
    int steps = count(7);
    // a long trace is shown by its measures alone
    for (int what = 0; what < 6 && steps <= 5; what++) {
      int part = what;
      line("trace " + what);
      for (int t = 0; t < steps || (t == steps && what == 0); t++) {
        int step = t;
        say(() -> bench.trace(step, part));
      }
    }
    line("measures");
    for (int what = 0; what < 8; what++) {
      int measure = what;
      say(() -> bench.measure(measure));
    }
    line("cost and bits");
    say(bench::cost);
    say(bench::meanSquareBits);
    say(bench::saturatedBits);
    say(() -> bench.reason(0));
    say(() -> bench.reason(1));
  }

  private void comparisons() {
    line("comparisons");
    for (int what = 0; what < 3; what++) {
      int comparison = what;
      say(() -> bench.compare(comparison));
    }
  }

  private void found() {
    for (boolean climbed : new boolean[] {false, true}) {
      line(climbed ? "climbed" : "searched");
      for (int what = 0; what < 4; what++) {
        int part = what;
        say(() -> bench.found(climbed, part));
      }
      say(() -> bench.foundCost(climbed));
    }
  }

  /** What changes concern: the weights are seen by the cost of a run, the rows of the grid by a search. */
  private void present(String title) {
    line(title);
    for (int k = 0; k < 15; k++) {
      int setting = k;
      say(() -> bench.setting(setting));
    }
    say(() -> bench.describe(-1));
    say(() -> bench.table(50));
    say(bench::run);
    say(bench::cost);
    say(bench::search);
    say(() -> bench.found(false, 0));
    say(() -> bench.found(false, 1));
    say(() -> bench.found(false, 2));
    say(() -> bench.foundCost(false));
  }

  private void past() {
    int changes = count(6);
    for (int k = 1; k <= changes; k++) {
      line("taken back, " + k);
      say(bench::undo);
      present("then");
    }
    line("no more");
    say(bench::undo);
    line("restored");
    say(bench::restore);
    present("then");
  }

  private void text() {
    line("loaded");
    say(bench::load);
    say(bench::errorPosition);
    description();
  }
}
