/** What a test says is due, and how many answers were not. */
final class Due {
  interface Call {
    long answer();
  }

  private final String test;
  private int looked = 0;
  private int wrong = 0;

  Due(String test) {
    this.test = test;
  }

  /** The call is due to answer a number. */
  void is(String what, long due, Call call) {
    String got;
    try {
      got = Long.toString(call.answer());
    } catch (RuntimeException e) {
      got = e.toString();
    }
    compare(what, Long.toString(due), got);
  }

  /** The call is due to throw an exception of just this class. */
  void fails(String what, Class<? extends RuntimeException> due, Call call) {
    String got;
    try {
      got = Long.toString(call.answer());
    } catch (RuntimeException e) {
      got = e.getClass().getName();
    }
    compare(what, due.getName(), got);
  }

  void compare(String what, String due, String got) {
    looked++;
    if (!due.equals(got)) {
      wrong++;
      if (wrong <= 20) {
        System.out.println(test + ": " + what + ": due is " + due + ", got " + got);
      }
    }
  }

  int looked() {
    return looked;
  }

  void end() {
    System.out.println(test + ": " + looked + " answers, " + wrong + " not as due");
    if (wrong != 0 || looked == 0) {
      System.exit(1);
    }
  }

  // ---- what several tests do with a bench ----

  /** Appends a text to the buffer, a character a call. */
  static void type(LineFollowerBench bench, String text) {
    for (char sign : text.toCharArray()) {
      bench.append(sign);
    }
  }

  static LineFollowerBench loaded(String text) {
    LineFollowerBench bench = new LineFollowerBench();
    type(bench, text);
    bench.load();
    return bench;
  }

  /** A bench with settings, given as number, value, number, value .. */
  static LineFollowerBench with(String text, int... settings) {
    LineFollowerBench bench = text.isEmpty() ? new LineFollowerBench() : loaded(text);
    for (int k = 0; k < settings.length; k += 2) {
      bench.set(settings[k], settings[k + 1]);
    }
    return bench;
  }

  static String described(LineFollowerBench bench) {
    StringBuilder text = new StringBuilder();
    for (int k = 0; k < bench.describe(-1); k++) {
      text.append((char) bench.describe(k));
    }
    return text.toString();
  }

  /** One part of the trace for all steps that have it. */
  static String row(LineFollowerBench bench, int what) {
    StringBuilder text = new StringBuilder();
    int end = what == 0 ? bench.count(7) : bench.count(7) - 1;
    for (int t = 0; t <= end; t++) {
      text.append(t == 0 ? "" : " ").append(bench.trace(t, what));
    }
    return text.toString();
  }
}
