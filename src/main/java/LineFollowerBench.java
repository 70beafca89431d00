import java.util.NoSuchElementException;

/** A bench for controllers of a line follower; ../shared/DOC.md says what each call promises. */
public final class LineFollowerBench {
  private static final int PROPORTIONAL = 0;
  private static final int INTEGRAL = 1;
  private static final int DERIVATIVE = 2;
  private static final int LIMIT = 3;
  private static final int GREATEST_CHANGE = 4;
  private static final int SENSOR_STEP = 5;
  private static final int DELAY = 6;
  private static final int WAY = 7;
  private static final int INTEGRAL_BOUND = 8;
  private static final int BACK_FACTOR = 9;
  private static final int CONTROLLER = 10;
  private static final int DEAD_BAND = 11;
  private static final int START = 12;
  private static final int STEPS = 13;
  private static final int BAND = 14;
  private static final int SETTINGS = 15;
  private static final int[] SETTING_LEAST = {0, 0, 0, 1, 1, 1, 0, 0, 0, 0, 0, 0, -2000, 1, 0};
  private static final int[] SETTING_MOST =
      {999, 999, 999, 1000, 1000, 100, 5, 3, 100000, 64, 2, 1000, 2000, 200, 1000};
  private static final int[] SETTING_AT_FIRST =
      {64, 0, 0, 400, 1000, 1, 0, 0, 10000, 16, 0, 50, 500, 60, 20};

  private static final int GAINS = 3;
  private static final int GAIN_MOST = 999;
  private static final int GRID_STEP_MOST = 200;
  private static final int GRID_COUNT_MOST = 6;
  private static final int TRIPLES_MOST = GRID_COUNT_MOST * GRID_COUNT_MOST * GRID_COUNT_MOST;
  private static final int WEIGHTS = 5;
  private static final int WEIGHT_MOST = 99;
  private static final int UNSETTLED_PART = 1000;

  private static final int POINTS_MOST = 5;
  private static final int PLACE_MOST = 10000;
  private static final int VALUE_MOST = 1000;

  private static final int TEXT_MOST = 50;
  private static final int DIGITS_MOST = 3;
  private static final int SEGMENTS_MOST = 8;
  private static final int DISTURBANCES_MOST = 4;
  private static final int STRAIGHT = 0;
  private static final int BEND = 1;
  private static final int RAMP = 2;
  private static final int DISTURBANCE = 3;
  private static final int LENGTH_MOST = 99;
  private static final int CURVATURE_MOST = 50;
  private static final int PUSH_MOST = 500;

  private static final int STEPS_MOST = 200;
  private static final int POSITION_MOST = 10000;
  private static final int INTEGRAL_MOST = 1000000;
  private static final int CHANGES_MOST = 6;

  private final Setup now = new Setup();
  private final Setup saved = new Setup();
  private boolean hasSaved = false;
  private final History history = new History();
  private final TrackReader reader = new TrackReader();
  private final StringBuilder description = new StringBuilder();
  private final Simulation simulation = new Simulation();
  private final Trace last = new Trace();
  private final Trace held = new Trace();
  private final Tuner tuner = new Tuner();
  private final Found searched = new Found();
  private final Found climbed = new Found();

  public LineFollowerBench() {
  }

  // ---- settings ----

  public int set(int setting, int value)
      throws IndexOutOfBoundsException, IllegalArgumentException {
    if (!isWithin(setting, 0, SETTINGS - 1)) {
      throw new IndexOutOfBoundsException("no such setting");
    }
    if (!isWithin(value, SETTING_LEAST[setting], SETTING_MOST[setting])) {
      throw new IllegalArgumentException("the value is out of range");
    }
    history.remember(now);
    int previous = now.settings[setting];
    now.settings[setting] = value;
    return previous;
  }

  public int setting(int setting) throws IndexOutOfBoundsException {
    if (!isWithin(setting, 0, SETTINGS - 1)) {
      throw new IndexOutOfBoundsException("no such setting");
    }
    return now.settings[setting];
  }

  public int setPoint(int place, int value) throws IllegalArgumentException, IllegalStateException {
    if (!isWithin(place, -PLACE_MOST, PLACE_MOST) || !isWithin(value, -VALUE_MOST, VALUE_MOST)) {
      throw new IllegalArgumentException("the place or the value is out of range");
    }
    if (!now.table.hasRoomAt(place)) {
      throw new IllegalStateException("the table is full");
    }
    history.remember(now);
    now.table.put(place, value);
    return now.table.size;
  }

  public int removePoint(int place) throws NoSuchElementException {
    int index = now.table.indexOf(place);
    if (!now.table.has(index)) {
      throw new NoSuchElementException("no point at this place");
    }
    history.remember(now);
    int value = now.table.values[index];
    now.table.removeAt(index);
    return value;
  }

  public int point(int index, int what) throws NoSuchElementException, IllegalArgumentException {
    if (!now.table.has(index)) {
      throw new NoSuchElementException("no such point");
    }
    if (what != 0 && what != 1) {
      throw new IllegalArgumentException("no such part of a point");
    }
    return what == 0 ? now.table.places[index] : now.table.values[index];
  }

  public int table(int seen) throws IllegalArgumentException {
    if (!isWithin(seen, -PLACE_MOST, PLACE_MOST)) {
      throw new IllegalArgumentException("the seen value is out of range");
    }
    return now.table.rawOutput(seen);
  }

  public int setWeight(int part, int weight)
      throws IndexOutOfBoundsException, IllegalArgumentException {
    if (!isWithin(part, 0, WEIGHTS - 1)) {
      throw new IndexOutOfBoundsException("no such part of the cost");
    }
    if (!isWithin(weight, 0, WEIGHT_MOST)) {
      throw new IllegalArgumentException("the weight is out of range");
    }
    history.remember(now);
    int previous = now.weights[part];
    now.weights[part] = weight;
    return previous;
  }

  public int setGrid(int gain, int first, int step, int count)
      throws IndexOutOfBoundsException, IllegalArgumentException {
    if (!isWithin(gain, 0, GAINS - 1)) {
      throw new IndexOutOfBoundsException("no such gain");
    }
    if (!isWithin(first, 0, GAIN_MOST) || !isWithin(step, 1, GRID_STEP_MOST)
        || !isWithin(count, 1, GRID_COUNT_MOST)) {
      throw new IllegalArgumentException("a number of the row is out of range");
    }
    if (first + step * (count - 1) > GAIN_MOST) {
      throw new IllegalArgumentException("a value of the row would be too great");
    }
    history.remember(now);
    now.grid.firsts[gain] = first;
    now.grid.steps[gain] = step;
    now.grid.counts[gain] = count;
    return now.grid.triples();
  }

  // ---- track ----

  public int append(int packed) throws IllegalArgumentException, IllegalStateException {
    if (!TrackReader.isAllowed(packed)) {
      throw new IllegalArgumentException("a character is not allowed");
    }
    if (!reader.hasRoomFor(packed)) {
      throw new IllegalStateException("the buffer is full");
    }
    reader.takeIn(packed);
    return reader.length;
  }

  public int load() throws IllegalArgumentException {
    boolean understood = reader.readText();
    reader.length = 0;
    if (!understood) {
      throw new IllegalArgumentException("there is an error in the text");
    }
    history.remember(now);
    now.track.takeOver(reader.track);
    return now.track.segments + now.track.disturbances;
  }

  public int errorPosition() {
    return reader.error;
  }

  public int describe(int index) throws IndexOutOfBoundsException {
    description.setLength(0);
    now.track.writeTo(description);
    if (index == -1) {
      return description.length();
    }
    if (!isWithin(index, 0, description.length() - 1)) {
      throw new IndexOutOfBoundsException("no such character");
    }
    return description.charAt(index);
  }

  public int curvature(int step) throws IndexOutOfBoundsException {
    if (!isWithin(step, 0, STEPS_MOST - 1)) {
      throw new IndexOutOfBoundsException("no such step");
    }
    return now.track.curvatureAt(step);
  }

  public int push(int step) throws IndexOutOfBoundsException {
    if (!isWithin(step, 0, STEPS_MOST - 1)) {
      throw new IndexOutOfBoundsException("no such step");
    }
    return now.track.pushAt(step);
  }

  // ---- runs ----

  public int run() {
    simulation.prepare(now);
    simulation.makeRun(last);
    return last.lastError();
  }

  public int trace(int step, int what)
      throws IllegalStateException, IndexOutOfBoundsException, IllegalArgumentException {
    if (!last.isMade()) {
      throw new IllegalStateException("there is no trace");
    }
    if (!isWithin(step, 0, last.steps)) {
      throw new IndexOutOfBoundsException("no such step");
    }
    if (!isWithin(what, 0, 5) || (step == last.steps && what != 0)) {
      throw new IllegalArgumentException("no such part of the trace");
    }
    return last.part(step, what);
  }

  public int measure(int what) throws IllegalStateException, IllegalArgumentException {
    if (!last.isMade()) {
      throw new IllegalStateException("there is no trace");
    }
    if (!isWithin(what, 0, 7)) {
      throw new IllegalArgumentException("no such measure");
    }
    return last.measured(what, now.settings[BAND]);
  }

  public long cost() throws IllegalStateException {
    if (!last.isMade()) {
      throw new IllegalStateException("there is no trace");
    }
    return last.weighted(now.weights, now.settings[BAND]);
  }

  public int reason(int step) throws IllegalStateException, IndexOutOfBoundsException {
    if (!last.isMade()) {
      throw new IllegalStateException("there is no trace");
    }
    if (!isWithin(step, 0, last.steps - 1)) {
      throw new IndexOutOfBoundsException("no such step");
    }
    int byError = Math.abs(now.settings[PROPORTIONAL] * last.seen[step]);
    int byIntegral = Math.abs(now.settings[INTEGRAL] * last.integrals[step]);
    int byChange = Math.abs(now.settings[DERIVATIVE] * last.seenChange(step));
    if (byError == 0 && byIntegral == 0 && byChange == 0) {
      return -1;
    }
    if (byError >= byIntegral && byError >= byChange) {
      return PROPORTIONAL;
    }
    return byIntegral >= byChange ? INTEGRAL : DERIVATIVE;
  }

  public long meanSquareBits() throws IllegalStateException {
    if (!last.isMade()) {
      throw new IllegalStateException("there is no trace");
    }
    return doubleBits(last.meanSquare());
  }

  public int saturatedBits() throws IllegalStateException {
    if (!last.isMade()) {
      throw new IllegalStateException("there is no trace");
    }
    return floatBits(last.saturatedShare());
  }

  // ---- comparing ----

  public int hold() throws IllegalStateException {
    if (!last.isMade()) {
      throw new IllegalStateException("there is no trace");
    }
    held.takeErrors(last);
    return held.steps;
  }

  public int compare(int what) throws IllegalStateException, IllegalArgumentException {
    if (!last.isMade() || !held.isMade()) {
      throw new IllegalStateException("there is no trace, or none is held");
    }
    if (!isWithin(what, 0, 2)) {
      throw new IllegalArgumentException("no such comparison");
    }
    if (what == 0) {
      return last.greatestDifference(held);
    }
    return what == 1 ? last.firstDifference(held) : last.lesserErrors(held);
  }

  // ---- tuning ----

  public int search() {
    tuner.fillCosts(now);
    tuner.takeLeast(now.grid, searched);
    return now.grid.triples();
  }

  public int climb() {
    tuner.fillCosts(now);
    return tuner.takeClimbed(now.grid, climbed);
  }

  public int found(boolean climbed, int what)
      throws IllegalStateException, IllegalArgumentException {
    Found found = foundBy(climbed);
    if (!found.isMade) {
      throw new IllegalStateException("nothing was found yet");
    }
    if (!isWithin(what, 0, GAINS)) {
      throw new IllegalArgumentException("no such part of what was found");
    }
    return what < GAINS ? found.gains[what] : found.greater;
  }

  public long foundCost(boolean climbed) throws IllegalStateException {
    Found found = foundBy(climbed);
    if (!found.isMade) {
      throw new IllegalStateException("nothing was found yet");
    }
    return found.cost;
  }

  public int apply(boolean climbed) throws IllegalStateException {
    Found found = foundBy(climbed);
    if (!found.isMade) {
      throw new IllegalStateException("nothing was found yet");
    }
    history.remember(now);
    int changed = 0;
    for (int gain = 0; gain < GAINS; gain++) {
      if (now.settings[gain] != found.gains[gain]) {
        changed++;
      }
      now.settings[gain] = found.gains[gain];
    }
    return changed;
  }

  public int lowest(int setting, long cost)
      throws IndexOutOfBoundsException, NoSuchElementException {
    if (!isWithin(setting, PROPORTIONAL, LIMIT)) {
      throw new IndexOutOfBoundsException("no setting that may be lowered");
    }
    int value = tuner.lowered(now, setting, cost);
    if (value < 0) {
      throw new NoSuchElementException("the cost is greater already");
    }
    return value;
  }

  // ---- counts, undo, snapshots ----

  public int count(int what) throws IllegalArgumentException {
    switch (what) {
      case 0: return now.track.segments;
      case 1: return now.track.disturbances;
      case 2: return now.table.size;
      case 3: return now.grid.triples();
      case 4: return now.track.totalLength();
      case 5: return reader.length;
      case 6: return history.size;
      case 7: return last.steps;
      default: throw new IllegalArgumentException("no such count");
    }
  }

  public int undo() throws IllegalStateException {
    if (history.size == 0) {
      throw new IllegalStateException("no change can be taken back");
    }
    history.takeBack(now);
    return history.size;
  }

  public int save() {
    saved.takeOver(now);
    hasSaved = true;
    return saved.track.segments;
  }

  public int restore() throws IllegalStateException {
    if (!hasSaved) {
      throw new IllegalStateException("nothing was saved");
    }
    history.remember(now);
    now.takeOver(saved);
    return now.track.segments;
  }

  // ---- what several of the calls use ----

  private Found foundBy(boolean climbing) {
    return climbing ? climbed : searched;
  }

  private static boolean isWithin(int value, int least, int most) {
    return value >= least && value <= most;
  }

  private static int limited(int value, int bound) {
    return value > bound ? bound : value < -bound ? -bound : value;
  }

  private static void copyRow(int[] from, int[] to) {
    System.arraycopy(from, 0, to, 0, Math.min(from.length, to.length));
  }

  /** The library's own function is outside LANGUAGE.md; the value is 0 or a normal number above 0. */
  private static long doubleBits(double value) {
    if (!(value > 0.0)) {
      return 0L;
    }
    double rest = value;
    long exponent = 1023;
    for (int k = 0; k < 1023 && rest >= 2.0; k++) {
      rest = rest / 2.0;
      exponent++;
    }
    for (int k = 0; k < 1023 && rest < 1.0; k++) {
      rest = rest * 2.0;
      exponent--;
    }
    return (exponent << 52) + (long) ((rest - 1.0) * 4503599627370496.0);
  }

  /** As doubleBits; the value is at most 1. */
  private static int floatBits(float value) {
    if (!(value > 0.0f)) {
      return 0;
    }
    float rest = value;
    int exponent = 127;
    for (int k = 0; k < 127 && rest < 1.0f; k++) {
      rest = rest * 2.0f;
      exponent--;
    }
    return (exponent << 23) + (int) ((rest - 1.0f) * 8388608.0f);
  }

  /** All that undo and restore bring back. */
  private static final class Setup {
    final int[] settings = SETTING_AT_FIRST.clone();
    final int[] weights = {1, 1, 0, 0, 0};
    final Grid grid = new Grid();
    final Table table = new Table();
    final Track track = new Track();

    void takeOver(Setup other) {
      copyRow(other.settings, settings);
      copyRow(other.weights, weights);
      grid.takeOver(other.grid);
      table.takeOver(other.table);
      track.takeOver(other.track);
    }
  }

  /** The rows of values of the three gains. */
  private static final class Grid {
    final int[] firsts = {0, 0, 0};
    final int[] steps = {32, 32, 32};
    final int[] counts = {3, 3, 3};

    int triples() {
      return counts[PROPORTIONAL] * counts[INTEGRAL] * counts[DERIVATIVE];
    }

    int gainAt(int gain, int index) {
      return isWithin(gain, 0, GAINS - 1) ? firsts[gain] + steps[gain] * index : 0;
    }

    void takeOver(Grid other) {
      copyRow(other.firsts, firsts);
      copyRow(other.steps, steps);
      copyRow(other.counts, counts);
    }
  }

  /** The points of controller 2, ordered by their places. */
  private static final class Table {
    final int[] places = new int[POINTS_MOST];
    final int[] values = new int[POINTS_MOST];
    int size = 0;

    boolean has(int index) {
      return index >= 0 && index < size && index < POINTS_MOST;
    }

    /** The index of the point at a place, or -1. */
    int indexOf(int place) {
      for (int k = 0; k < size && k < POINTS_MOST; k++) {
        if (places[k] == place) {
          return k;
        }
      }
      return -1;
    }

    boolean hasRoomAt(int place) {
      return size < POINTS_MOST || has(indexOf(place));
    }

    void put(int place, int value) {
      int index = indexOf(place);
      if (has(index)) {
        values[index] = value;
      } else if (size < POINTS_MOST) {
        insert(place, value);
      }
    }

    private void insert(int place, int value) {
      int index = size;
      size++;
      for (; index > 0 && places[index - 1] > place; index--) {
        places[index] = places[index - 1];
        values[index] = values[index - 1];
      }
      places[index] = place;
      values[index] = value;
    }

    void removeAt(int index) {
      if (!has(index)) {
        return;
      }
      for (int k = index; k + 1 < size && k + 1 < POINTS_MOST; k++) {
        places[k] = places[k + 1];
        values[k] = values[k + 1];
      }
      size--;
    }

    int rawOutput(int seen) {
      if (size <= 0 || size > POINTS_MOST) {
        return 0;
      }
      if (seen <= places[0]) {
        return values[0];
      }
      for (int k = 1; k < size && k < POINTS_MOST; k++) {
        if (seen <= places[k]) {
          return valueBetween(k - 1, k, seen);
        }
      }
      return values[size - 1];
    }

    private int valueBetween(int before, int behind, int seen) {
      int width = places[behind] - places[before];
      int rise = values[behind] - values[before];
      return width > 0 ? values[before] + rise * (seen - places[before]) / width : 0;
    }

    void takeOver(Table other) {
      copyRow(other.places, places);
      copyRow(other.values, values);
      size = other.size;
    }
  }

  /** The segments and the disturbances. */
  private static final class Track {
    private final int[] kinds = new int[SEGMENTS_MOST];
    private final int[] lengths = new int[SEGMENTS_MOST];
    private final int[] curvatures = new int[SEGMENTS_MOST];
    int segments = 0;
    private final int[] pushFirsts = new int[DISTURBANCES_MOST];
    private final int[] pushValues = new int[DISTURBANCES_MOST];
    private final int[] pushLengths = new int[DISTURBANCES_MOST];
    int disturbances = 0;

    void clear() {
      segments = 0;
      disturbances = 0;
    }

    boolean hasRoomFor(int kind) {
      return kind == DISTURBANCE ? disturbances < DISTURBANCES_MOST : segments < SEGMENTS_MOST;
    }

    void addSegment(int kind, int length, int curvature) {
      if (segments < SEGMENTS_MOST) {
        kinds[segments] = kind;
        lengths[segments] = length;
        curvatures[segments] = curvature;
        segments++;
      }
    }

    void addDisturbance(int first, int value, int length) {
      if (disturbances < DISTURBANCES_MOST) {
        pushFirsts[disturbances] = first;
        pushValues[disturbances] = value;
        pushLengths[disturbances] = length;
        disturbances++;
      }
    }

    int totalLength() {
      int sum = 0;
      for (int k = 0; k < segments && k < SEGMENTS_MOST; k++) {
        sum += lengths[k];
      }
      return sum;
    }

    int curvatureAt(int step) {
      int inside = step;
      for (int k = 0; k < segments && k < SEGMENTS_MOST; k++) {
        if (inside < lengths[k]) {
          return curvatureInside(k, inside);
        }
        inside -= lengths[k];
      }
      return 0;
    }

    private int curvatureInside(int segment, int inside) {
      if (kinds[segment] == RAMP && lengths[segment] > 0) {
        return curvatures[segment] * inside / lengths[segment];
      }
      return kinds[segment] == BEND ? curvatures[segment] : 0;
    }

    int pushAt(int step) {
      int sum = 0;
      for (int k = 0; k < disturbances && k < DISTURBANCES_MOST; k++) {
        if (isWithin(step - pushFirsts[k], 0, pushLengths[k] - 1)) {
          sum += pushValues[k];
        }
      }
      return sum;
    }

    void writeTo(StringBuilder text) {
      for (int k = 0; k < segments && k < SEGMENTS_MOST; k++) {
        separate(text);
        text.append(kinds[k] == STRAIGHT ? 's' : kinds[k] == BEND ? 'b' : 'r').append(lengths[k]);
        if (kinds[k] != STRAIGHT) {
          text.append(':').append(curvatures[k]);
        }
      }
      for (int k = 0; k < disturbances && k < DISTURBANCES_MOST; k++) {
        separate(text);
        text.append('p').append(pushFirsts[k]).append(':').append(pushValues[k]);
        text.append('*').append(pushLengths[k]);
      }
    }

    private static void separate(StringBuilder text) {
      if (text.length() > 0) {
        text.append(';');
      }
    }

    void takeOver(Track other) {
      copyRow(other.kinds, kinds);
      copyRow(other.lengths, lengths);
      copyRow(other.curvatures, curvatures);
      segments = other.segments;
      copyRow(other.pushFirsts, pushFirsts);
      copyRow(other.pushValues, pushValues);
      copyRow(other.pushLengths, pushLengths);
      disturbances = other.disturbances;
    }
  }

  /** The buffer, and how the text in it is read; each read method answers whether it found no error. */
  private static final class TrackReader {
    private final char[] text = new char[TEXT_MOST];
    int length = 0;
    int error = -1;
    final Track track = new Track();
    private int position = 0;
    private int number = 0;

    static boolean isAllowed(int packed) {
      for (int shift = 24; shift >= 0; shift -= 8) {
        int sign = packed >> shift & 255;
        if (sign != 0 && !isWithin(sign, 33, 126)) {
          return false;
        }
      }
      return true;
    }

    boolean hasRoomFor(int packed) {
      int signs = 0;
      for (int shift = 24; shift >= 0; shift -= 8) {
        if ((packed >> shift & 255) != 0) {
          signs++;
        }
      }
      return length + signs <= TEXT_MOST;
    }

    void takeIn(int packed) {
      for (int shift = 24; shift >= 0; shift -= 8) {
        int sign = packed >> shift & 255;
        if (sign != 0 && length < TEXT_MOST) {
          text[length] = (char) sign;
          length++;
        }
      }
    }

    boolean readText() {
      position = 0;
      error = -1;
      track.clear();
      for (int parts = 0; parts < TEXT_MOST; parts++) {
        if (!readPart()) {
          return false;
        }
        if (position == length) {
          return true;
        }
        if (!readSign(';')) {
          return false;
        }
      }
      return failAt(position);
    }

    private boolean readPart() {
      int kind = kindOf(sign());
      if (kind < 0 || !track.hasRoomFor(kind)) {
        return failAt(position);
      }
      position++;
      return kind == DISTURBANCE ? readDisturbance() : readSegment(kind);
    }

    private static int kindOf(char letter) {
      switch (letter) {
        case 's': return STRAIGHT;
        case 'b': return BEND;
        case 'r': return RAMP;
        case 'p': return DISTURBANCE;
        default: return -1;
      }
    }

    private boolean readSegment(int kind) {
      if (!readNumber(1, 1, LENGTH_MOST)) {
        return false;
      }
      int segmentLength = number;
      int curvature = 0;
      if (kind != STRAIGHT) {
        if (!readSign(':') || !readSigned(CURVATURE_MOST)) {
          return false;
        }
        curvature = number;
      }
      track.addSegment(kind, segmentLength, curvature);
      return true;
    }

    private boolean readDisturbance() {
      if (!readNumber(1, 0, STEPS_MOST - 1)) {
        return false;
      }
      int first = number;
      if (!readSign(':') || !readSigned(PUSH_MOST)) {
        return false;
      }
      int value = number;
      if (!readSign('*') || !readNumber(1, 1, LENGTH_MOST)) {
        return false;
      }
      track.addDisturbance(first, value, number);
      return true;
    }

    private boolean readSigned(int bound) {
      if (sign() == '-') {
        position++;
        return readNumber(-1, -bound, bound);
      }
      return readNumber(1, -bound, bound);
    }

    private boolean readNumber(int factor, int least, int most) {
      int start = position;
      int amount = 0;
      for (int digits = 0; digits < DIGITS_MOST && isDigit(sign()); digits++) {
        if (digits > 0 && amount == 0) {
          break;
        }
        amount = amount * 10 + (sign() - '0');
        position++;
      }
      number = factor * amount;
      return (position > start && isWithin(number, least, most)) || failAt(start);
    }

    private boolean readSign(char due) {
      if (sign() != due) {
        return failAt(position);
      }
      position++;
      return true;
    }

    /** The character at the position, or 0, which no text holds, behind the last one. */
    private char sign() {
      return position >= 0 && position < length && position < TEXT_MOST ? text[position] : 0;
    }

    private static boolean isDigit(char sign) {
      return sign >= '0' && sign <= '9';
    }

    private boolean failAt(int index) {
      error = index;
      return false;
    }
  }

  /** What a run leaves; without steps there was none yet. */
  private static final class Trace {
    final int[] errors = new int[STEPS_MOST + 1];
    final int[] seen = new int[STEPS_MOST];
    final int[] outputs = new int[STEPS_MOST];
    final int[] actuators = new int[STEPS_MOST];
    final int[] integrals = new int[STEPS_MOST];
    final int[] saturations = new int[STEPS_MOST];
    int steps = 0;

    boolean isMade() {
      return steps > 0 && steps <= STEPS_MOST;
    }

    int part(int step, int what) {
      if (what == 0) {
        return isWithin(step, 0, STEPS_MOST) ? errors[step] : 0;
      }
      if (!isWithin(step, 0, STEPS_MOST - 1)) {
        return 0;
      }
      switch (what) {
        case 1: return seen[step];
        case 2: return outputs[step];
        case 3: return actuators[step];
        case 4: return integrals[step];
        default: return saturations[step];
      }
    }

    int seenChange(int step) {
      return isWithin(step, 1, STEPS_MOST - 1) ? seen[step] - seen[step - 1] : 0;
    }

    int measured(int what, int band) {
      switch (what) {
        case 0: return sumOfErrors();
        case 1: return greatestError();
        case 2: return overshoot();
        case 3: return settlingStep(band);
        case 4: return crossings();
        case 5: return saturatedSteps();
        case 6: return actuatorChanges();
        default: return lastError();
      }
    }

    long weighted(int[] weights, int band) {
      if (weights.length < WEIGHTS) {
        return 0L;
      }
      int settling = settlingStep(band);
      long sum = (long) weights[0] * sumOfErrors();
      sum += (long) weights[1] * overshoot();
      sum += (long) weights[2] * saturatedSteps();
      sum += (long) weights[3] * actuatorChanges();
      sum += (long) weights[4] * (settling == -1 ? UNSETTLED_PART : settling);
      return sum;
    }

    int lastError() {
      return isMade() ? errors[steps] : 0;
    }

    private int sumOfErrors() {
      int sum = 0;
      for (int t = 0; t <= steps && t <= STEPS_MOST; t++) {
        sum += Math.abs(errors[t]);
      }
      return sum;
    }

    private int greatestError() {
      int greatest = 0;
      for (int t = 1; t <= steps && t <= STEPS_MOST; t++) {
        greatest = Math.max(greatest, Math.abs(errors[t]));
      }
      return greatest;
    }

    private int overshoot() {
      int greatest = 0;
      for (int t = 1; t <= steps && t <= STEPS_MOST; t++) {
        if (areOpposite(errors[0], errors[t])) {
          greatest = Math.max(greatest, Math.abs(errors[t]));
        }
      }
      return greatest;
    }

    private int settlingStep(int band) {
      int settling = -1;
      for (int t = Math.min(steps, STEPS_MOST); t >= 0 && Math.abs(errors[t]) <= band; t--) {
        settling = t;
      }
      return settling;
    }

    private int crossings() {
      int crossings = 0;
      for (int t = 0; t < steps && t < STEPS_MOST; t++) {
        if (areOpposite(errors[t], errors[t + 1])) {
          crossings++;
        }
      }
      return crossings;
    }

    private static boolean areOpposite(int one, int other) {
      return (one > 0 && other < 0) || (one < 0 && other > 0);
    }

    private int saturatedSteps() {
      int sum = 0;
      for (int t = 0; t < steps && t < STEPS_MOST; t++) {
        sum += saturations[t];
      }
      return sum;
    }

    private int actuatorChanges() {
      int sum = 0;
      int before = 0;
      for (int t = 0; t < steps && t < STEPS_MOST; t++) {
        sum += Math.abs(actuators[t] - before);
        before = actuators[t];
      }
      return sum;
    }

    double meanSquare() {
      double sum = 0.0;
      for (int t = 0; t <= steps && t <= STEPS_MOST; t++) {
        sum += (double) errors[t] * (double) errors[t];
      }
      return isMade() ? sum / (double) (steps + 1) : 0.0;
    }

    float saturatedShare() {
      return isMade() ? (float) saturatedSteps() / (float) steps : 0.0f;
    }

    /** Comparisons look at errors alone, so that nothing else need be held. */
    void takeErrors(Trace other) {
      copyRow(other.errors, errors);
      steps = other.steps;
    }

    int greatestDifference(Trace other) {
      int greatest = 0;
      for (int t = 0; t <= steps && t <= other.steps && t <= STEPS_MOST; t++) {
        greatest = Math.max(greatest, Math.abs(errors[t] - other.errors[t]));
      }
      return greatest;
    }

    int firstDifference(Trace other) {
      for (int t = 0; t <= steps && t <= other.steps && t <= STEPS_MOST; t++) {
        if (errors[t] != other.errors[t]) {
          return t;
        }
      }
      return -1;
    }

    int lesserErrors(Trace other) {
      int lesser = 0;
      for (int t = 0; t <= steps && t <= other.steps && t <= STEPS_MOST; t++) {
        if (Math.abs(errors[t]) < Math.abs(other.errors[t])) {
          lesser++;
        }
      }
      return lesser;
    }
  }

  /** Makes runs with settings of its own, so that tuning can try values without a change. */
  private static final class Simulation {
    final int[] settings = SETTING_AT_FIRST.clone();
    private final Table table = new Table();
    private final int[] curvatures = new int[STEPS_MOST];
    private final int[] pushes = new int[STEPS_MOST];
    private final int[] measured = new int[STEPS_MOST];
    private int error = 0;
    private int heading = 0;
    private int actuator = 0;
    private int integral = 0;
    private int output = 0;
    private boolean isSaturated = false;

    void prepare(Setup setup) {
      copyRow(setup.settings, settings);
      table.takeOver(setup.table);
      for (int t = 0; t < settings[STEPS] && t < STEPS_MOST; t++) {
        curvatures[t] = setup.track.curvatureAt(t);
        pushes[t] = setup.track.pushAt(t);
      }
    }

    void makeRun(Trace trace) {
      begin();
      trace.steps = Math.min(settings[STEPS], STEPS_MOST);
      for (int t = 0; t < trace.steps && t < STEPS_MOST; t++) {
        trace.errors[t] = error;
        measured[t] = measuredError();
        trace.seen[t] = measured[seenStep(t)];
        control(trace.seen[t], trace.seenChange(t));
        moveActuator();
        moveRobot(curvatures[t], pushes[t]);
        trace.outputs[t] = output;
        trace.actuators[t] = actuator;
        trace.integrals[t] = integral;
        trace.saturations[t] = isSaturated ? 1 : 0;
        trace.errors[t + 1] = error;
      }
    }

    private void begin() {
      error = settings[START];
      heading = 0;
      actuator = 0;
      integral = 0;
      output = 0;
      isSaturated = false;
    }

    private int measuredError() {
      int sensorStep = settings[SENSOR_STEP];
      return sensorStep > 0 ? error / sensorStep * sensorStep : error;
    }

    private int seenStep(int t) {
      return Math.max(t - Math.max(settings[DELAY], 0), 0);
    }

    private void control(int seen, int change) {
      boolean isByGains = settings[CONTROLLER] == 0;
      int summed = isByGains ? summedIntegral(seen) : integral;
      int raw;
      if (isByGains) {
        raw = (settings[PROPORTIONAL] * seen + settings[INTEGRAL] * summed
            + settings[DERIVATIVE] * change) / 64;
      } else {
        raw = settings[CONTROLLER] == 1 ? ofTwoOutputs(seen) : table.rawOutput(seen);
      }
      output = limited(raw, settings[LIMIT]);
      isSaturated = raw != output;
      if (isByGains) {
        integral = keptIntegral(summed, seen, raw);
      }
    }

    private int summedIntegral(int seen) {
      int summed = limited(integral + seen, INTEGRAL_MOST);
      return settings[WAY] == 1 ? limited(summed, settings[INTEGRAL_BOUND]) : summed;
    }

    private int ofTwoOutputs(int seen) {
      if (seen > settings[DEAD_BAND]) {
        return settings[LIMIT];
      }
      return seen < -settings[DEAD_BAND] ? -settings[LIMIT] : output;
    }

    private int keptIntegral(int summed, int seen, int raw) {
      if (settings[WAY] == 2 && isSaturated) {
        boolean isDriven = (raw > 0 && seen > 0) || (raw < 0 && seen < 0);
        return isDriven ? integral : summed;
      }
      if (settings[WAY] == 3) {
        return limited(summed - (raw - output) * settings[BACK_FACTOR] / 16, INTEGRAL_MOST);
      }
      return summed;
    }

    private void moveActuator() {
      actuator += limited(output - actuator, settings[GREATEST_CHANGE]);
    }

    private void moveRobot(int curvature, int push) {
      heading = limited(heading + curvature - actuator / 8, POSITION_MOST);
      error = limited(error + heading / 8 + push, POSITION_MOST);
    }
  }

  /** What search or climb found last. */
  private static final class Found {
    boolean isMade = false;
    final int[] gains = new int[GAINS];
    long cost = 0L;
    int greater = 0;
  }

  /** Tries gains and limits, with a trace of its own. */
  private static final class Tuner {
    private final Simulation simulation = new Simulation();
    private final Trace trial = new Trace();
    private final long[] costs = new long[TRIPLES_MOST];
    private final int[] indexes = new int[GAINS];

    /** Fills the costs of all triples, ordered by the gains, so that the first of several is due. */
    void fillCosts(Setup setup) {
      simulation.prepare(setup);
      int triples = setup.grid.triples();
      startIndexes();
      for (int k = 0; k < triples && k < TRIPLES_MOST; k++) {
        for (int gain = 0; gain < GAINS; gain++) {
          simulation.settings[gain] = setup.grid.gainAt(gain, indexes[gain]);
        }
        costs[k] = trialCost(setup);
        moveIndexes(setup.grid);
      }
    }

    private void startIndexes() {
      for (int gain = 0; gain < GAINS; gain++) {
        indexes[gain] = 0;
      }
    }

    /** The last gain moves fastest. */
    private void moveIndexes(Grid grid) {
      for (int gain = GAINS - 1; gain >= 0; gain--) {
        indexes[gain]++;
        if (indexes[gain] < grid.counts[gain]) {
          return;
        }
        indexes[gain] = 0;
      }
    }

    private long trialCost(Setup setup) {
      simulation.makeRun(trial);
      return trial.weighted(setup.weights, setup.settings[BAND]);
    }

    private long costAtIndexes(Grid grid) {
      int k = (indexes[PROPORTIONAL] * grid.counts[INTEGRAL] + indexes[INTEGRAL])
          * grid.counts[DERIVATIVE] + indexes[DERIVATIVE];
      return isWithin(k, 0, TRIPLES_MOST - 1) ? costs[k] : 0L;
    }

    void takeLeast(Grid grid, Found found) {
      int triples = grid.triples();
      startIndexes();
      for (int k = 0; k < triples && k < TRIPLES_MOST; k++) {
        if (k == 0 || costs[k] < found.cost) {
          takeIndexes(grid, found);
        }
        moveIndexes(grid);
      }
      found.greater = greaterCosts(grid, found.cost);
    }

    /** Answers the number of gains that were looked at. */
    int takeClimbed(Grid grid, Found found) {
      startIndexes();
      long before = costAtIndexes(grid);
      int looked = 0;
      int unchanged = 0;
      // each three looks but the last ones make the cost less, which it can become once a triple
      while (unchanged < GAINS && looked < GAINS * (TRIPLES_MOST + 1)) {
        long least = takeBestOfRow(grid, looked % GAINS);
        unchanged = least == before ? unchanged + 1 : 0;
        before = least;
        looked++;
      }
      takeIndexes(grid, found);
      found.greater = greaterCosts(grid, found.cost);
      return looked;
    }

    private long takeBestOfRow(Grid grid, int gain) {
      if (!isWithin(gain, 0, GAINS - 1)) {
        return costAtIndexes(grid);
      }
      int best = 0;
      long least = 0L;
      for (int k = 0; k < grid.counts[gain]; k++) {
        indexes[gain] = k;
        long cost = costAtIndexes(grid);
        if (k == 0 || cost < least) {
          least = cost;
          best = k;
        }
      }
      indexes[gain] = best;
      return least;
    }

    private void takeIndexes(Grid grid, Found found) {
      for (int gain = 0; gain < GAINS; gain++) {
        found.gains[gain] = grid.gainAt(gain, indexes[gain]);
      }
      found.cost = costAtIndexes(grid);
      found.isMade = true;
    }

    private int greaterCosts(Grid grid, long cost) {
      int triples = grid.triples();
      int greater = 0;
      for (int k = 0; k < triples && k < TRIPLES_MOST; k++) {
        if (costs[k] > cost) {
          greater++;
        }
      }
      return greater;
    }

    /** The least value, or -1 if the cost with the present one is greater than the allowed one. */
    int lowered(Setup setup, int setting, long allowed) {
      if (!isWithin(setting, 0, SETTINGS - 1)) {
        return -1;
      }
      simulation.prepare(setup);
      int lowest = -1;
      for (int value = setup.settings[setting]; value >= SETTING_LEAST[setting]; value--) {
        simulation.settings[setting] = value;
        if (trialCost(setup) > allowed) {
          break;
        }
        lowest = value;
      }
      return lowest;
    }
  }

  /** The setups before the latest changes, in a ring. */
  private static final class History {
    private final Setup[] setups = new Setup[CHANGES_MOST];
    private int next = 0;
    int size = 0;

    History() {
      for (int k = 0; k < CHANGES_MOST; k++) {
        setups[k] = new Setup();
      }
    }

    void remember(Setup now) {
      Setup setup = setupAt(next);
      if (setup != null) {
        setup.takeOver(now);
        next = (next + 1) % CHANGES_MOST;
        size = Math.min(size + 1, CHANGES_MOST);
      }
    }

    void takeBack(Setup now) {
      int latest = (next + CHANGES_MOST - 1) % CHANGES_MOST;
      Setup setup = setupAt(latest);
      if (size > 0 && setup != null) {
        now.takeOver(setup);
        next = latest;
        size--;
      }
    }

    private Setup setupAt(int index) {
      return isWithin(index, 0, CHANGES_MOST - 1) ? setups[index] : null;
    }
  }
}
