import java.util.ArrayDeque;
import java.util.ArrayList;
import java.util.Arrays;
import java.util.List;
import java.util.NoSuchElementException;
import java.util.TreeMap;
import java.util.function.LongPredicate;
import java.util.stream.IntStream;

/**
 * The document once more, written apart from the class and without regard to LANGUAGE.md, so that random runs of
 * calls can be compared.
 */
public final class ReferenceBench {
  private static final int[][] RANGES = {
    {0, 999, 64}, {0, 999, 0}, {0, 999, 0}, {1, 1000, 400}, {1, 1000, 1000}, {1, 100, 1}, {0, 5, 0},
    {0, 3, 0}, {0, 100000, 10000}, {0, 64, 16}, {0, 2, 0}, {0, 1000, 50}, {-2000, 2000, 500},
    {1, 200, 60}, {0, 1000, 20}};

  private static final class State {
    int[] settings = Arrays.stream(RANGES).mapToInt(range -> range[2]).toArray();
    TreeMap<Integer, Integer> points = new TreeMap<>();
    int[] weights = {1, 1, 0, 0, 0};
    int[][] grid = {{0, 32, 3}, {0, 32, 3}, {0, 32, 3}};
    List<int[]> segments = new ArrayList<>();
    List<int[]> disturbances = new ArrayList<>();

    State copy() {
      State state = new State();
      state.settings = settings.clone();
      state.points = new TreeMap<>(points);
      state.weights = weights.clone();
      state.grid = Arrays.stream(grid).map(int[]::clone).toArray(int[][]::new);
      state.segments = new ArrayList<>(segments);
      state.disturbances = new ArrayList<>(disturbances);
      return state;
    }
  }

  private record Step(long error, long seen, long output, long actuator, long integral, boolean saturated) {
  }

  private record Run(List<Step> steps, long last) {
    long error(int t) {
      return t == steps.size() ? last : steps.get(t).error;
    }

    long[] errors() {
      return IntStream.rangeClosed(0, steps.size()).mapToLong(this::error).toArray();
    }
  }

  private record Result(int[] gains, long cost, int greater) {
  }

  private State state = new State();
  private final ArrayDeque<State> past = new ArrayDeque<>();
  private State saved;
  private String buffer = "";
  private int errorPosition = -1;
  private Run trace;
  private Run held;
  private final Result[] results = new Result[2];

  private static void index(boolean isRight) {
    if (!isRight) {
      throw new IndexOutOfBoundsException();
    }
  }

  private static void argument(boolean isRight) {
    if (!isRight) {
      throw new IllegalArgumentException();
    }
  }

  private static void state(boolean isRight) {
    if (!isRight) {
      throw new IllegalStateException();
    }
  }

  private static void element(boolean isRight) {
    if (!isRight) {
      throw new NoSuchElementException();
    }
  }

  private void change() {
    past.addLast(state.copy());
    if (past.size() > 6) {
      past.removeFirst();
    }
  }

  public int set(int setting, int value) {
    index(setting >= 0 && setting < 15);
    argument(value >= RANGES[setting][0] && value <= RANGES[setting][1]);
    change();
    int previous = state.settings[setting];
    state.settings[setting] = value;
    return previous;
  }

  public int setting(int setting) {
    index(setting >= 0 && setting < 15);
    return state.settings[setting];
  }

  public int setPoint(int place, int value) {
    argument(place >= -10000 && place <= 10000 && value >= -1000 && value <= 1000);
    state(state.points.size() < 5 || state.points.containsKey(place));
    change();
    state.points.put(place, value);
    return state.points.size();
  }

  public int removePoint(int place) {
    element(state.points.containsKey(place));
    change();
    return state.points.remove(place);
  }

  public int point(int index, int what) {
    element(index >= 0 && index < state.points.size());
    argument(what == 0 || what == 1);
    int place = new ArrayList<>(state.points.keySet()).get(index);
    return what == 0 ? place : state.points.get(place);
  }

  public int table(int seen) {
    argument(seen >= -10000 && seen <= 10000);
    return (int) byTable(state, seen);
  }

  private static long byTable(State state, long seen) {
    var before = state.points.floorEntry((int) seen);
    var behind = state.points.ceilingEntry((int) seen);
    if (before == null || behind == null) {
      return before != null ? before.getValue() : behind != null ? behind.getValue() : 0;
    }
    if (before.getKey().equals(behind.getKey())) {
      return before.getValue();
    }
    long x = before.getKey();
    long y = before.getValue();
    return y + (behind.getValue() - y) * (seen - x) / (behind.getKey() - x);
  }

  public int setWeight(int part, int weight) {
    index(part >= 0 && part <= 4);
    argument(weight >= 0 && weight <= 99);
    change();
    int previous = state.weights[part];
    state.weights[part] = weight;
    return previous;
  }

  public int setGrid(int gain, int first, int step, int count) {
    index(gain >= 0 && gain <= 2);
    argument(first >= 0 && first <= 999 && step >= 1 && step <= 200 && count >= 1 && count <= 6);
    argument(first + step * (count - 1) <= 999);
    change();
    state.grid[gain] = new int[] {first, step, count};
    return triples();
  }

  private int triples() {
    return Arrays.stream(state.grid).mapToInt(row -> row[2]).reduce(1, (a, b) -> a * b);
  }

  public int append(int packed) {
    StringBuilder text = new StringBuilder();
    for (int shift : new int[] {24, 16, 8, 0}) {
      int sign = (packed >>> shift) % 256;
      if (shift == 24) {
        sign = packed >>> 24;
      }
      argument(sign == 0 || (sign >= 33 && sign <= 126));
      if (sign != 0) {
        text.append((char) sign);
      }
    }
    state(buffer.length() + text.length() <= 50);
    buffer += text;
    return buffer.length();
  }

  /** What must follow each letter: a number's range, or a sign as a single number. */
  private static int[][] form(char letter) {
    switch (letter) {
      case 's': return new int[][] {{1, 99}};
      case 'b': case 'r': return new int[][] {{1, 99}, {':'}, {-50, 50}};
      case 'p': return new int[][] {{0, 199}, {':'}, {-500, 500}, {'*'}, {1, 99}};
      default: return null;
    }
  }

  public int load() {
    String text = buffer;
    buffer = "";
    List<int[]> segments = new ArrayList<>();
    List<int[]> disturbances = new ArrayList<>();
    errorPosition = parse(text, segments, disturbances);
    argument(errorPosition == -1);
    change();
    state.segments = segments;
    state.disturbances = disturbances;
    return segments.size() + disturbances.size();
  }

  private static int parse(String text, List<int[]> segments, List<int[]> disturbances) {
    int at = 0;
    while (true) {
      int[][] form = at < text.length() ? form(text.charAt(at)) : null;
      if (form == null) {
        return at;
      }
      char letter = text.charAt(at);
      if (letter == 'p' ? disturbances.size() == 4 : segments.size() == 8) {
        return at;
      }
      at++;
      List<Integer> numbers = new ArrayList<>();
      for (int[] due : form) {
        String rest = text.substring(at);
        if (due.length == 1) {
          if (!rest.startsWith("" + (char) due[0])) {
            return at;
          }
          at++;
          continue;
        }
        var sign = java.util.regex.Pattern.compile(due[0] < 0 ? "-?" : "").matcher(rest);
        sign.lookingAt();
        int digit = at + sign.end();
        var number = java.util.regex.Pattern.compile("0|[1-9][0-9]?[0-9]?").matcher(text.substring(digit));
        if (!number.lookingAt()) {
          return digit;
        }
        int value = Integer.parseInt(sign.group() + number.group());
        if (value < due[0] || value > due[1]) {
          return digit;
        }
        numbers.add(value);
        at = digit + number.end();
      }
      if (letter == 'p') {
        disturbances.add(new int[] {numbers.get(0), numbers.get(1), numbers.get(2)});
      } else {
        segments.add(new int[] {"sbr".indexOf(letter), numbers.get(0), letter == 's' ? 0 : numbers.get(1)});
      }
      if (at == text.length()) {
        return -1;
      }
      if (text.charAt(at) != ';') {
        return at;
      }
      at++;
    }
  }

  public int errorPosition() {
    return errorPosition;
  }

  public int describe(int index) {
    List<String> parts = new ArrayList<>();
    for (int[] segment : state.segments) {
      parts.add("sbr".charAt(segment[0]) + "" + segment[1] + (segment[0] == 0 ? "" : ":" + segment[2]));
    }
    for (int[] disturbance : state.disturbances) {
      parts.add(String.format("p%d:%d*%d", disturbance[0], disturbance[1], disturbance[2]));
    }
    String text = String.join(";", parts);
    index(index >= -1 && index < text.length());
    return index == -1 ? text.length() : text.charAt(index);
  }

  public int curvature(int step) {
    index(step >= 0 && step < 200);
    List<Integer> all = new ArrayList<>();
    for (int[] segment : state.segments) {
      for (int k = 0; k < segment[1]; k++) {
        all.add(segment[0] == 0 ? 0 : segment[0] == 1 ? segment[2] : segment[2] * k / segment[1]);
      }
    }
    return step < all.size() ? all.get(step) : 0;
  }

  public int push(int step) {
    index(step >= 0 && step < 200);
    return state.disturbances.stream().filter(d -> step >= d[0] && step < d[0] + d[2]).mapToInt(d -> d[1]).sum();
  }

  private static long limit(long number, long bound) {
    return Math.max(-bound, Math.min(bound, number));
  }

  private Run simulate(int[] settings, int[] curvatures, int[] pushes) {
    List<Step> steps = new ArrayList<>();
    List<Long> measured = new ArrayList<>();
    long e = settings[12];
    long h = 0;
    long a = 0;
    long i = 0;
    long output = 0;
    long before = 0;
    for (int t = 0; t < settings[13]; t++) {
      long error = e;
      measured.add(e / settings[5] * settings[5]);
      long s = t < settings[6] ? measured.get(0) : measured.get(t - settings[6]);
      long d = t == 0 ? 0 : s - before;
      before = s;
      long raw = 0;
      if (settings[10] == 0) {
        long j = limit(i + s, 1000000);
        j = settings[7] == 1 ? limit(j, settings[8]) : j;
        raw = (settings[0] * s + settings[1] * j + settings[2] * d) / 64;
        output = limit(raw, settings[3]);
        boolean isKept = settings[7] == 2 && raw != output && Long.signum(raw) * Long.signum(s) == 1;
        i = isKept ? i : settings[7] == 3 ? limit(j - (raw - output) * settings[9] / 16, 1000000) : j;
      } else if (settings[10] == 1) {
        raw = s > settings[11] ? settings[3] : s < -settings[11] ? -settings[3] : output;
        output = raw;
      } else {
        raw = byTable(state, s);
        output = limit(raw, settings[3]);
      }
      if (Math.abs(output - a) <= settings[4]) {
        a = output;
      } else {
        a = output > a ? a + settings[4] : a - settings[4];
      }
      h = limit(h + curvatures[t] - a / 8, 10000);
      e = limit(e + h / 8 + pushes[t], 10000);
      steps.add(new Step(error, s, output, a, i, raw != output));
    }
    return new Run(steps, e);
  }

  private int[] curvatures() {
    return IntStream.range(0, 200).map(this::curvature).toArray();
  }

  private int[] pushes() {
    return IntStream.range(0, 200).map(this::push).toArray();
  }

  public int run() {
    trace = simulate(state.settings, curvatures(), pushes());
    return (int) trace.last;
  }

  public int trace(int step, int what) {
    state(trace != null);
    index(step >= 0 && step <= trace.steps.size());
    argument(what >= 0 && what <= 5 && (what == 0 || step < trace.steps.size()));
    if (what == 0) {
      return (int) trace.error(step);
    }
    Step all = trace.steps.get(step);
    return (int) new long[] {0, all.seen, all.output, all.actuator, all.integral, all.saturated ? 1 : 0}[what];
  }

  private static long measured(Run run, int what, int band) {
    long[] errors = run.errors();
    int steps = run.steps.size();
    switch (what) {
      case 0: return Arrays.stream(errors).map(Math::abs).sum();
      case 1: return Arrays.stream(errors).skip(1).map(Math::abs).max().getAsLong();
      case 2: return Arrays.stream(errors).filter(opposite(errors[0])).map(Math::abs).max().orElse(0);
      case 3:
        return IntStream.rangeClosed(0, steps).filter(
            t -> Arrays.stream(errors).skip(t).allMatch(error -> Math.abs(error) <= band)).findFirst().orElse(-1);
      case 4: return IntStream.range(0, steps).filter(t -> errors[t] * errors[t + 1] < 0).count();
      case 5: return run.steps.stream().filter(Step::saturated).count();
      case 6:
        return IntStream.range(0, steps).mapToLong(t -> Math.abs(
            run.steps.get(t).actuator - (t == 0 ? 0 : run.steps.get(t - 1).actuator))).sum();
      default: return run.last;
    }
  }

  private static LongPredicate opposite(long first) {
    return error -> error * first < 0;
  }

  public int measure(int what) {
    state(trace != null);
    argument(what >= 0 && what <= 7);
    return (int) measured(trace, what, state.settings[14]);
  }

  private long cost(Run run) {
    long settling = measured(run, 3, state.settings[14]);
    return state.weights[0] * measured(run, 0, 0) + state.weights[1] * measured(run, 2, 0)
        + state.weights[2] * measured(run, 5, 0) + state.weights[3] * measured(run, 6, 0)
        + state.weights[4] * (settling == -1 ? 1000 : settling);
  }

  public long cost() {
    state(trace != null);
    return cost(trace);
  }

  public int reason(int step) {
    state(trace != null);
    index(step >= 0 && step < trace.steps.size());
    Step all = trace.steps.get(step);
    long change = step == 0 ? 0 : all.seen - trace.steps.get(step - 1).seen;
    long[] products = {state.settings[0] * all.seen, state.settings[1] * all.integral, state.settings[2] * change};
    int best = -1;
    long greatest = 0;
    for (int k = 0; k < 3; k++) {
      if (Math.abs(products[k]) > greatest) {
        greatest = Math.abs(products[k]);
        best = k;
      }
    }
    return best;
  }

  public long meanSquareBits() {
    state(trace != null);
    double sum = 0.0;
    for (long error : trace.errors()) {
      sum += (double) (error * error);
    }
    return Double.doubleToLongBits(sum / (double) trace.errors().length);
  }

  public int saturatedBits() {
    state(trace != null);
    return Float.floatToIntBits((float) measured(trace, 5, 0) / (float) trace.steps.size());
  }

  public int hold() {
    state(trace != null);
    held = trace;
    return held.steps.size();
  }

  public int compare(int what) {
    state(trace != null && held != null);
    argument(what >= 0 && what <= 2);
    long[] ours = trace.errors();
    long[] theirs = held.errors();
    int both = Math.min(ours.length, theirs.length);
    switch (what) {
      case 0: return (int) IntStream.range(0, both).mapToLong(t -> Math.abs(ours[t] - theirs[t])).max().getAsLong();
      case 1: return IntStream.range(0, both).filter(t -> ours[t] != theirs[t]).findFirst().orElse(-1);
      default:
        return (int) IntStream.range(0, both).filter(t -> Math.abs(ours[t]) < Math.abs(theirs[t])).count();
    }
  }

  private long[][][] costs() {
    int[] curvatures = curvatures();
    int[] pushes = pushes();
    long[][][] costs = new long[state.grid[0][2]][state.grid[1][2]][state.grid[2][2]];
    for (int p = 0; p < costs.length; p++) {
      for (int i = 0; i < costs[p].length; i++) {
        for (int d = 0; d < costs[p][i].length; d++) {
          int[] settings = state.settings.clone();
          System.arraycopy(gains(new int[] {p, i, d}), 0, settings, 0, 3);
          costs[p][i][d] = cost(simulate(settings, curvatures, pushes));
        }
      }
    }
    return costs;
  }

  private int[] gains(int[] places) {
    return IntStream.range(0, 3).map(k -> state.grid[k][0] + state.grid[k][1] * places[k]).toArray();
  }

  private Result result(int[] places, long[][][] costs) {
    long cost = costs[places[0]][places[1]][places[2]];
    int greater = (int) Arrays.stream(costs).flatMap(Arrays::stream).flatMapToLong(Arrays::stream)
        .filter(other -> other > cost).count();
    return new Result(gains(places), cost, greater);
  }

  public int search() {
    long[][][] costs = costs();
    int[] best = {0, 0, 0};
    for (int p = costs.length - 1; p >= 0; p--) {
      for (int i = costs[p].length - 1; i >= 0; i--) {
        for (int d = costs[p][i].length - 1; d >= 0; d--) {
          if (costs[p][i][d] <= costs[best[0]][best[1]][best[2]]) {
            best = new int[] {p, i, d};
          }
        }
      }
    }
    results[0] = result(best, costs);
    return triples();
  }

  public int climb() {
    long[][][] costs = costs();
    int[] places = {0, 0, 0};
    int looked = 0;
    int quiet = 0;
    while (quiet < 3) {
      int gain = looked % 3;
      long before = costs[places[0]][places[1]][places[2]];
      int[] best = null;
      for (int k = 0; k < state.grid[gain][2]; k++) {
        int[] other = places.clone();
        other[gain] = k;
        if (best == null || costs[other[0]][other[1]][other[2]] < costs[best[0]][best[1]][best[2]]) {
          best = other;
        }
      }
      places = best;
      quiet = costs[best[0]][best[1]][best[2]] == before ? quiet + 1 : 0;
      looked++;
    }
    results[1] = result(places, costs);
    return looked;
  }

  private Result result(boolean climbed) {
    Result result = results[climbed ? 1 : 0];
    state(result != null);
    return result;
  }

  public int found(boolean climbed, int what) {
    Result result = result(climbed);
    argument(what >= 0 && what <= 3);
    return what == 3 ? result.greater : result.gains[what];
  }

  public long foundCost(boolean climbed) {
    return result(climbed).cost;
  }

  public int apply(boolean climbed) {
    Result result = result(climbed);
    change();
    int changed = (int) IntStream.range(0, 3).filter(k -> state.settings[k] != result.gains[k]).count();
    System.arraycopy(result.gains, 0, state.settings, 0, 3);
    return changed;
  }

  public int lowest(int setting, long cost) {
    index(setting >= 0 && setting <= 3);
    int[] curvatures = curvatures();
    int[] pushes = pushes();
    int[] settings = state.settings.clone();
    while (settings[setting] >= RANGES[setting][0] && cost(simulate(settings, curvatures, pushes)) <= cost) {
      settings[setting]--;
    }
    element(settings[setting] != state.settings[setting]);
    return settings[setting] + 1;
  }

  public int count(int what) {
    argument(what >= 0 && what <= 7);
    return new int[] {state.segments.size(), state.disturbances.size(), state.points.size(), triples(),
      state.segments.stream().mapToInt(segment -> segment[1]).sum(), buffer.length(), past.size(),
      trace == null ? 0 : trace.steps.size()}[what];
  }

  public int undo() {
    state(!past.isEmpty());
    state = past.removeLast();
    return past.size();
  }

  public int save() {
    saved = state.copy();
    return saved.segments.size();
  }

  public int restore() {
    state(saved != null);
    change();
    state = saved.copy();
    return state.segments.size();
  }
}
