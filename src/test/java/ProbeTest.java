import java.util.function.Supplier;

/**
 * The twins of the boundary tests, aspect by aspect: a twin shows only what a call changes, so that what the benches
 * are like is written down here, as ReferenceBench has it too.
 */
public final class ProbeTest {
  private static final Due due = new Due("ProbeTest");
  private static final String[][] RICH = {
    {"settings",
        "8 4 20 20 15 1 0 0 10000 16 0 50 -45 4 10"},
    {"table",
        "2 40 250 300 77"},
    {"weights",
        "2 3 6 7 11"},
    {"grid",
        "12 89 4 110 11 2862 89 4 110 11 2862 89 1 110 10 4491 89 1 110 10 4491"},
    {"track",
        "3 2 10 31 s2;b3:-7;r5:20;p1:-90*2;p2:60*1 0 0 0 -90 -7 -30 -7 0 -7 0 0 0 4 0 8 0 12 0 16 0 0 0 "
        + "0 0 0 0 0 0 0 0 0 0 0 0 0 0 0 0 0 0"},
    {"text",
        "7 2 -1 7 s7;b5:1"},
    {"error position",
        "3"},
    {"trace",
        "4 -45 -45 -135 -165 -45 -45 -135 -165 -20 -20 -20 -20 -15 -20 -20 -20 -45 -90 -225 -390 1 1 1 1 "
        + "-165"},
    {"measures",
        "555 165 0 -1 0 4 20 -165 12274"},
    {"bits",
        "4669661617292574720 1065353216"},
    {"reasons",
        "0 0 2 1"},
    {"held",
        "120 0 4 4"},
    {"searched",
        "8 4 20 11 12052"},
    {"climbed",
        "9 4 20 11 12052"},
    {"past",
        "6 5 64 3 20 20 15 1 0 0 10000 16 0 50 -45 4 10 31 2 244 12 -165 12274 4 64 3 20 20 15 1 0 0 "
        + "10000 16 0 50 -45 4 10 31 2 244 12 -165 12274 3 64 3 20 20 15 1 0 0 10000 16 0 50 -45 4 10 31 2 "
        + "244 12 -165 12270 2 64 3 20 20 15 1 0 0 10000 16 0 50 -45 4 10 31 3 244 12 -165 12270 1 64 3 20 "
        + "20 15 1 0 0 10000 16 0 50 -45 4 10 31 2 250 12 -165 12270 0 64 3 20 20 15 1 0 0 10000 16 0 50 "
        + "60 4 10 31 2 250 12 -63 12107 IllegalStateException"},
    {"saved",
        "3 2 -100 -300 40 250 3 2 10 31 s2;b3:-7;r5:20;p1:-90*2;p2:60*1 0 0 0 -90 -7 -30 -7 0 -7 0 0 0 4 "
        + "0 8 0 12 0 16 0 0 0 0 0 0 0 0 0 0 0 0 0 0 0 0 0 0 0 0 0 64 3 20 20 15 1 0 0 10000 16 0 50 60 4 "
        + "10 31 2 250 12 -63 12107 2 3 5 7 11 12 88 4 110 10 2862 88 4 110 10 2862 88 6 110 11 4482 88 6 "
        + "110 11 4482"},
    {"run",
        "-166 4 -45 -45 -135 -165 -45 -45 -135 -165 -8 -11 -20 -20 -8 -11 -20 -20 -45 -90 -225 -390 0 0 "
        + "1 1 -166"}};
  private static final String[][] FRESH = {
    {"settings",
        "64 0 0 400 1000 1 0 0 10000 16 0 50 500 60 20"},
    {"table",
        "0"},
    {"weights",
        "1 1 0 0 0"},
    {"grid",
        "27 64 64 64 26 2700 64 64 64 26 2700 64 64 64 26 4221 64 64 64 26 4221"},
    {"track",
        "0 0 0 0  0 0 0 0 0 0 0 0 0 0 0 0 0 0 0 0 0 0 0 0 0 0 0 0 0 0 0 0 0 0 0 0 0 0 0 0 0 0 0 0"},
    {"text",
        "0 IllegalArgumentException 0"},
    {"error position",
        "-1"},
    {"trace",
        "0 IllegalStateException"},
    {"measures",
        "IllegalStateException IllegalStateException IllegalStateException IllegalStateException "
        + "IllegalStateException IllegalStateException IllegalStateException IllegalStateException "
        + "IllegalStateException"},
    {"bits",
        "IllegalStateException IllegalStateException"},
    {"reasons",
        "IllegalStateException IllegalStateException IllegalStateException IllegalStateException"},
    {"held",
        "IllegalStateException IllegalStateException IllegalStateException 4"},
    {"searched",
        "IllegalStateException IllegalStateException IllegalStateException IllegalStateException "
        + "IllegalStateException"},
    {"climbed",
        "IllegalStateException IllegalStateException IllegalStateException IllegalStateException "
        + "IllegalStateException"},
    {"past",
        "0 IllegalStateException"},
    {"saved",
        "IllegalStateException"},
    {"run",
        "358 60 500 494 482 464 439 500 494 482 464 439 400 400 400 400 400 400 400 400 400 400 500 994 "
        + "1476 1940 2379 1 1 1 1 1 358"}};

  public static void main(String[] args) {
    compare("rich", RICH, Boundary.RICH);
    compare("fresh", FRESH, Boundary.FRESH);
    due.end();
  }

  private static void compare(String name, String[][] wanted, Supplier<LineFollowerBench> bench) {
    due.compare(name + ", aspects", "" + Probe.ASPECTS.size(), "" + wanted.length);
    for (String[] row : wanted) {
      due.compare(name + ", " + row[0], row[1], Probe.of(row[0], bench.get()));
    }
  }
}
