import java.util.function.Consumer;
import java.util.function.Supplier;

/** Boundary cases of promises 31 to 34: counts, undo, save and restore. */
public final class BoundaryChangesTest extends Boundary {
  /** As rich, but with three changes that can be taken back. */
  private static final Supplier<LineFollowerBench> THREE = () -> {
    LineFollowerBench bench = rich();
    for (int k = 0; k < 3; k++) {
      bench.undo();
    }
    return bench;
  };

  public static void main(String[] args) {
    new BoundaryChangesTest().runAll(31, 34);
  }

  @Override
  void tests() {
    wrongCounts();
    emptyCounts();
    fullCounts();
    noUndo();
    undoDepth();
    undoOfEach();
    undoIsNone();
    undoLeaves();
    saves();
    savedParts();
    leaving();
    noRestore();
    restores();
    restoreChanges();
    restoreLeaves();
  }

  private void wrongCounts() {
    for (int what : new int[] {-1, 8, MIN, MAX}) {
      refused(31, "what " + what, ARGUMENT, RICH, b -> b.count(what));
      refused(31, "what " + what + " of a new object", ARGUMENT, FRESH, b -> b.count(what));
    }
    int[] rich = {3, 2, 2, 12, 10, 7, 6, 4};
    for (int k = 0; k < 8; k++) {
      int what = k;
      answers(31, "what " + what + " of a rich bench", rich[k], RICH, b -> b.count(what));
      leavesAll(31, "what " + what + " leaves all as it is", RICH, b -> b.count(what));
    }
  }

  private void emptyCounts() {
    int[] fresh = {0, 0, 0, 27, 0, 0, 0, 0};
    for (int k = 0; k < 8; k++) {
      int what = k;
      answers(31, "what " + what + " of a new object", fresh[k], FRESH, b -> b.count(what));
    }
    answers(31, "no segments, only a disturbance", 0, loaded("p0:1*99"), b -> b.count(0));
    answers(31, "no disturbances, only a segment", 0, loaded("s1"), b -> b.count(1));
    answers(31, "the length of a track of disturbances alone", 0, loaded("p0:1*99"), b -> b.count(4));
    answers(31, "no points after the only one was removed", 0, () -> {
      LineFollowerBench bench = new LineFollowerBench();
      bench.setPoint(0, 0);
      bench.removePoint(0);
      return bench;
    }, b -> b.count(2));
    answers(31, "an empty buffer after a refused load", 0, () -> {
      LineFollowerBench bench = new LineFollowerBench();
      type(bench, "x");
      loadWrong(bench);
      return bench;
    }, b -> b.count(5));
    answers(31, "no changes after all were taken back", 0, () -> {
      LineFollowerBench bench = with("", 0, 1, 0, 2);
      bench.undo();
      bench.undo();
      return bench;
    }, b -> b.count(6));
    answers(31, "no trace after tuning alone", 0, () -> {
      LineFollowerBench bench = new LineFollowerBench();
      bench.search();
      bench.climb();
      bench.lowest(0, Long.MAX_VALUE);
      return bench;
    }, b -> b.count(7));
  }

  private void fullCounts() {
    answers(31, "one segment", 1, loaded("s1"), b -> b.count(0));
    answers(31, "eight segments", 8, loaded("s1;s1;s1;s1;s1;s1;s1;s1"), b -> b.count(0));
    answers(31, "one disturbance", 1, loaded("p0:1*1"), b -> b.count(1));
    answers(31, "four disturbances", 4, loaded("p0:1*1;p0:1*1;p0:1*1;p0:1*1"), b -> b.count(1));
    answers(31, "five points", 5, () -> pointed(5), b -> b.count(2));
    answers(31, "five points after a sixth was refused", 5, () -> {
      LineFollowerBench bench = pointed(5);
      fails(STATE, () -> bench.setPoint(6, 6));
      return bench;
    }, b -> b.count(2));
    answers(31, "one triple", 1, () -> gridded(1), b -> b.count(3));
    answers(31, "216 triples", 216, () -> gridded(6), b -> b.count(3));
    answers(31, "the least length of a track", 1, loaded("s1"), b -> b.count(4));
    answers(31, "the greatest length of a track", 792, loaded("s99;s99;s99;s99;s99;s99;s99;s99"), b -> b.count(4));
    answers(31, "the lengths of all kinds, without disturbances", 6, loaded("s1;b2:9;r3:9;p0:1*99"),
        b -> b.count(4));
    answers(31, "one character", 1, () -> typed(1), b -> b.count(5));
    answers(31, "50 characters", 50, () -> typed(50), b -> b.count(5));
    answers(31, "50 characters after one more was refused", 50, () -> {
      LineFollowerBench bench = typed(50);
      fails(STATE, () -> bench.append('s'));
      return bench;
    }, b -> b.count(5));
    answers(31, "one step", 1, () -> ran("", 13, 1), b -> b.count(7));
    answers(31, "200 steps", 200, () -> ran("", 13, 200), b -> b.count(7));
    answers(31, "the steps of the trace, not of the setting", 1, () -> {
      LineFollowerBench bench = ran("", 13, 1);
      bench.set(13, 200);
      return bench;
    }, b -> b.count(7));
    for (int k : new int[] {1, 5, 6, 7, 12, 13, 100}) {
      answers(31, "changes that can be taken back, after " + k, Math.min(k, 6), () -> changed(k), b -> b.count(6));
    }
  }

  private static LineFollowerBench pointed(int points) {
    LineFollowerBench bench = new LineFollowerBench();
    for (int k = 1; k <= points; k++) {
      bench.setPoint(k, k);
    }
    return bench;
  }

  private static LineFollowerBench gridded(int count) {
    LineFollowerBench bench = new LineFollowerBench();
    for (int gain = 0; gain < 3; gain++) {
      bench.setGrid(gain, 0, 1, count);
    }
    return bench;
  }

  private static LineFollowerBench typed(int characters) {
    LineFollowerBench bench = new LineFollowerBench();
    type(bench, "s".repeat(characters));
    return bench;
  }

  /** The proportional gain was 1, 2 and so on. */
  private static LineFollowerBench changed(int changes) {
    LineFollowerBench bench = new LineFollowerBench();
    for (int k = 1; k <= changes; k++) {
      bench.set(0, k);
    }
    return bench;
  }

  private void noUndo() {
    refused(32, "no change yet", STATE, FRESH, LineFollowerBench::undo);
    refused(32, "the only change was taken back", STATE, () -> {
      LineFollowerBench bench = changed(1);
      bench.undo();
      return bench;
    }, LineFollowerBench::undo);
    refused(32, "all six were taken back, the older ones are forgotten", STATE, () -> {
      LineFollowerBench bench = changed(7);
      for (int k = 0; k < 6; k++) {
        bench.undo();
      }
      return bench;
    }, LineFollowerBench::undo);
    refused(32, "all six of a rich bench were taken back", STATE, () -> {
      LineFollowerBench bench = rich();
      for (int k = 0; k < 6; k++) {
        bench.undo();
      }
      return bench;
    }, LineFollowerBench::undo);
    refused(32, "only refused calls", STATE, () -> {
      LineFollowerBench bench = new LineFollowerBench();
      fails(ARGUMENT, () -> bench.set(0, 1000));
      fails(ARGUMENT, () -> bench.setPoint(0, 1001));
      fails(ELEMENT, () -> bench.removePoint(0));
      fails(ARGUMENT, () -> bench.setWeight(0, 100));
      fails(ARGUMENT, () -> bench.setGrid(0, 0, 1, 7));
      fails(ARGUMENT, bench::load);
      fails(STATE, () -> bench.apply(false));
      fails(STATE, bench::restore);
      return bench;
    }, LineFollowerBench::undo);
    refused(32, "only calls that are no changes", STATE, () -> {
      LineFollowerBench bench = new LineFollowerBench();
      type(bench, "s1");
      bench.run();
      bench.hold();
      bench.search();
      bench.climb();
      bench.lowest(0, Long.MAX_VALUE);
      bench.save();
      return bench;
    }, LineFollowerBench::undo);
  }

  private void undoDepth() {
    for (int k : new int[] {1, 5, 6, 7, 8, 12, 13, 100}) {
      int changes = k;
      test(32, "all that can be taken back after " + changes + " changes", () -> {
        LineFollowerBench bench = changed(changes);
        int most = Math.min(changes, 6);
        for (int back = 1; back <= most; back++) {
          int value = changes - back;
          is(most - back, bench::undo);
          is(value == 0 ? 64 : value, () -> bench.setting(0));
        }
        fails(STATE, bench::undo);
        int last = changes - most;
        is(last == 0 ? 64 : last, () -> bench.setting(0));
      });
    }
    test(32, "what was forgotten is not remembered again", () -> {
      LineFollowerBench bench = changed(7);
      bench.undo();
      is(5, () -> bench.count(6));
      for (int left = 4; left >= 0; left--) {
        is(left, bench::undo);
      }
      is(1, () -> bench.setting(0));
      fails(STATE, bench::undo);
    });
    test(32, "changes that were taken back make room for new ones", () -> {
      LineFollowerBench bench = changed(6);
      bench.undo();
      bench.undo();
      bench.set(0, 50);
      bench.set(0, 51);
      is(6, () -> bench.count(6));
      int[] values = {50, 4, 3, 2, 1, 64};
      for (int k = 0; k < 6; k++) {
        int at = k;
        is(5 - k, bench::undo);
        is(values[at], () -> bench.setting(0));
      }
      fails(STATE, bench::undo);
    });
    test(32, "a change that was taken back is not taken back again", () -> {
      LineFollowerBench bench = changed(3);
      bench.undo();
      bench.set(0, 50);
      is(2, bench::undo);
      is(2, () -> bench.setting(0));
      is(1, bench::undo);
      is(1, () -> bench.setting(0));
    });
    test(32, "a change after all were taken back", () -> {
      LineFollowerBench bench = changed(9);
      for (int k = 0; k < 6; k++) {
        bench.undo();
      }
      bench.set(0, 50);
      is(1, () -> bench.count(6));
      is(0, bench::undo);
      is(3, () -> bench.setting(0));
    });
    test(32, "back and forth many times", () -> {
      LineFollowerBench bench = changed(3);
      for (int k = 0; k < 100; k++) {
        bench.set(0, 500);
        bench.undo();
      }
      is(3, () -> bench.count(6));
      is(3, () -> bench.setting(0));
      is(2, bench::undo);
      is(2, () -> bench.setting(0));
    });
  }

  /** The change is taken back, so that nothing but this shows it. */
  private void undone(String name, Consumer<LineFollowerBench> change) {
    test(32, "taken back, " + name, () -> {
      LineFollowerBench bench = THREE.get();
      change.accept(bench);
      is(4, () -> bench.count(6));
      is(3, bench::undo);
      sameState(Probe.without("text", "error position"), THREE, () -> {
        LineFollowerBench other = THREE.get();
        change.accept(other);
        other.undo();
        return other;
      });
    });
  }

  private void undoOfEach() {
    for (int k = 0; k < 15; k++) {
      int setting = k;
      undone("set of setting " + setting, b -> b.set(setting, setting == 6 || setting == 7 || setting == 10 ? 2 : 33));
    }
    undone("set to the same value", b -> b.set(0, b.setting(0)));
    undone("setPoint of a new place before the first", b -> b.setPoint(-10000, 5));
    undone("setPoint of a new place in between", b -> b.setPoint(39, 5));
    undone("setPoint of a new place behind the last", b -> b.setPoint(10000, 5));
    undone("setPoint of a place that is there", b -> b.setPoint(40, 5));
    undone("removePoint of the first", b -> b.removePoint(40));
    undone("removePoint of the last", b -> b.removePoint(300));
    for (int k = 0; k < 5; k++) {
      int part = k;
      undone("setWeight of part " + part, b -> b.setWeight(part, 98));
    }
    for (int k = 0; k < 3; k++) {
      int gain = k;
      undone("setGrid of the first value of gain " + gain, b -> b.setGrid(gain, 500, 90, 2));
      undone("setGrid of one value of gain " + gain, b -> b.setGrid(gain, 0, 1, 1));
      undone("setGrid of six values of gain " + gain, b -> b.setGrid(gain, 0, 199, 6));
    }
    undone("load of a right text", LineFollowerBench::load);
    undone("apply of what search found", b -> b.apply(false));
    undone("apply of what climb found", b -> b.apply(true));
    undone("restore", LineFollowerBench::restore);
  }

  private void undoIsNone() {
    test(32, "undo is no change itself", () -> {
      LineFollowerBench bench = changed(2);
      is(1, bench::undo);
      is(1, () -> bench.count(6));
    });
    test(32, "the first load is taken back to no track", () -> {
      LineFollowerBench bench = with("s1;p0:1*1");
      is(0, bench::undo);
      is(0, () -> bench.count(0));
      is(0, () -> bench.count(1));
      is(0, () -> bench.describe(-1));
    });
    test(32, "the fifth point is taken back, and the first", () -> {
      LineFollowerBench bench = pointed(5);
      is(4, bench::undo);
      is(4, () -> bench.count(2));
      for (int k = 0; k < 4; k++) {
        bench.undo();
      }
      is(0, () -> bench.count(2));
      is(0, () -> bench.table(1));
    });
    test(32, "setPoint in a full table is taken back", () -> {
      LineFollowerBench bench = pointed(5);
      bench.setPoint(3, -9);
      bench.undo();
      same("1=1 2=2 3=3 4=4 5=5", points(bench));
    });
    test(32, "removePoint in a full table is taken back", () -> {
      LineFollowerBench bench = pointed(5);
      bench.removePoint(1);
      bench.undo();
      same("1=1 2=2 3=3 4=4 5=5", points(bench));
    });
  }

  /** What changes do not concern stays. */
  private void undoLeaves() {
    leaves(32, "undo of a set", LineFollowerBench::undo);
    leaves(32, "undo of a restore", b -> {
      b.restore();
      b.undo();
    });
    leaves(32, "undo of all", b -> {
      for (int k = 0; k < 6; k++) {
        b.undo();
      }
    });
    test(32, "the text of a load that is taken back does not come back", () -> {
      LineFollowerBench bench = rich();
      bench.load();
      bench.undo();
      is(0, () -> bench.count(5));
    });
    test(32, "what was saved stays", () -> {
      LineFollowerBench bench = changed(3);
      bench.save();
      for (int k = 0; k < 3; k++) {
        bench.undo();
      }
      bench.restore();
      is(3, () -> bench.setting(0));
    });
  }

  private void leaves(int promise, String name, Consumer<LineFollowerBench> calls) {
    test(promise, name + " leaves the trace, the held one, what was found, the buffer and the error position", () -> {
      LineFollowerBench twin = rich();
      LineFollowerBench bench = rich();
      calls.accept(bench);
      for (int what = 0; what < 6; what++) {
        same(Due.row(twin, what), Due.row(bench, what));
      }
      for (int k = 0; k < 3; k++) {
        int what = k;
        is(twin.compare(what), () -> bench.compare(what));
      }
      for (boolean climbed : new boolean[] {false, true}) {
        for (int k = 0; k < 4; k++) {
          int what = k;
          is(twin.found(climbed, what), () -> bench.found(climbed, what));
        }
        is(twin.foundCost(climbed), () -> bench.foundCost(climbed));
      }
      is(3, bench::errorPosition);
      is(7, () -> bench.count(5));
      bench.load();
      same("s7;b5:1", Due.described(bench));
    });
  }

  private void saves() {
    answers(33, "no segments", 0, FRESH, LineFollowerBench::save);
    answers(33, "no segments, only disturbances", 0, loaded("p0:1*1"), LineFollowerBench::save);
    answers(33, "one segment", 1, loaded("s1;p0:1*1;p0:1*1"), LineFollowerBench::save);
    answers(33, "eight segments", 8, loaded("s1;s1;s1;s1;s1;s1;s1;s1"), LineFollowerBench::save);
    test(33, "it is no change", () -> {
      LineFollowerBench bench = new LineFollowerBench();
      bench.save();
      is(0, () -> bench.count(6));
      fails(STATE, bench::undo);
    });
    test(33, "six changes stay six, and can be taken back", () -> {
      LineFollowerBench bench = changed(6);
      bench.save();
      is(6, () -> bench.count(6));
      for (int left = 5; left >= 0; left--) {
        is(left, bench::undo);
      }
      is(64, () -> bench.setting(0));
    });
    test(33, "in place of what was saved before", () -> {
      LineFollowerBench bench = with("s1;s2", 0, 7);
      bench.save();
      type(bench, "p0:1*1");
      bench.load();
      bench.set(0, 8);
      is(0, bench::save);
      bench.set(0, 9);
      is(0, bench::restore);
      is(8, () -> bench.setting(0));
      same("p0:1*1", Due.described(bench));
    });
    leavesAll(33, "saved twice is as saved once", () -> {
      LineFollowerBench bench = rich();
      bench.save();
      return bench;
    }, LineFollowerBench::save);
    test(33, "nothing of a new object is saved as well", () -> {
      LineFollowerBench bench = new LineFollowerBench();
      bench.save();
      bench.set(0, 1);
      bench.setPoint(1, 1);
      type(bench, "s1");
      bench.load();
      is(0, bench::restore);
      is(64, () -> bench.setting(0));
      is(0, () -> bench.count(2));
      is(0, () -> bench.describe(-1));
    });
    leaves(33, "save", LineFollowerBench::save);
  }

  /** What is saved does not change with what changes later. */
  private void savedParts() {
    savedPart("a setting", b -> b.set(0, 999));
    savedPart("a point in place of one", b -> b.setPoint(40, -9));
    savedPart("a new point", b -> b.setPoint(39, -9));
    savedPart("a removed point", b -> b.removePoint(40));
    savedPart("a weight", b -> b.setWeight(0, 98));
    savedPart("a row of the grid", b -> b.setGrid(0, 500, 90, 2));
    savedPart("the track", LineFollowerBench::load);
    savedPart("an undo", LineFollowerBench::undo);
    savedPart("an apply", b -> b.apply(true));
  }

  private void savedPart(String name, Consumer<LineFollowerBench> change) {
    test(33, "what is saved stays after " + name, () -> {
      sameState(Probe.without("text", "error position", "past"), () -> {
        LineFollowerBench twin = rich();
        twin.save();
        return twin;
      }, () -> {
        LineFollowerBench bench = rich();
        bench.save();
        change.accept(bench);
        bench.restore();
        return bench;
      });
    });
  }

  private void leaving() {
    leavesAll(32, "an undo of a set changes nothing else", () -> {
      LineFollowerBench bench = rich();
      bench.set(12, 7);
      return bench;
    }, LineFollowerBench::undo, "settings", "past", "run");
    leavesAll(32, "an undo of a load changes nothing else", () -> {
      LineFollowerBench bench = rich();
      bench.load();
      return bench;
    }, LineFollowerBench::undo, "track", "past", "run");
    leavesAll(33, "the first save changes nothing else", FRESH, LineFollowerBench::save, "saved");
    leavesAll(33, "another save changes nothing else", RICH, LineFollowerBench::save, "saved");
    leavesAll(34, "a restore changes nothing else", RICH, LineFollowerBench::restore,
        "settings", "table", "weights", "grid", "track", "measures", "reasons", "past", "run");
    leavesAll(34, "a second restore changes nothing else", () -> {
      LineFollowerBench bench = rich();
      bench.restore();
      return bench;
    }, LineFollowerBench::restore, "past");
  }

  private void noRestore() {
    refused(34, "nothing was saved", STATE, FRESH, LineFollowerBench::restore);
    refused(34, "nothing was saved, with changes", STATE, () -> changed(7), LineFollowerBench::restore);
    refused(34, "nothing was saved, although all else was called", STATE,
        BoundaryChangesTest::withAllButSave, LineFollowerBench::restore);
    test(34, "a refused one is no change", () -> {
      LineFollowerBench bench = changed(2);
      fails(STATE, bench::restore);
      is(2, () -> bench.count(6));
      is(1, bench::undo);
      is(1, () -> bench.setting(0));
    });
  }

  private static LineFollowerBench withAllButSave() {
    LineFollowerBench bench = with("s2;b3:4;p1:2*3", 13, 2);
    bench.setPoint(1, 1);
    bench.setPoint(2, 2);
    bench.removePoint(1);
    bench.setWeight(1, 2);
    bench.setGrid(1, 2, 3, 1);
    bench.run();
    bench.hold();
    bench.search();
    bench.climb();
    bench.apply(false);
    bench.undo();
    bench.lowest(0, Long.MAX_VALUE);
    bench.setting(0);
    bench.point(0, 0);
    bench.table(0);
    bench.errorPosition();
    bench.describe(0);
    bench.curvature(0);
    bench.push(0);
    bench.trace(0, 0);
    bench.measure(0);
    bench.cost();
    bench.reason(0);
    bench.meanSquareBits();
    bench.saturatedBits();
    bench.compare(0);
    bench.found(true, 0);
    bench.foundCost(true);
    bench.count(0);
    return bench;
  }

  private void restores() {
    answers(34, "no segments", 0, () -> saved("p0:1*1"), LineFollowerBench::restore);
    answers(34, "one segment", 1, () -> saved("s1"), LineFollowerBench::restore);
    answers(34, "eight segments", 8, () -> saved("s1;s1;s1;s1;s1;s1;s1;s1"), LineFollowerBench::restore);
    test(34, "it stays saved, also for a third time", () -> {
      LineFollowerBench bench = saved("s5");
      for (int k = 0; k < 3; k++) {
        type(bench, "r1:1;r2:2");
        bench.load();
        is(1, bench::restore);
        same("s5", Due.described(bench));
      }
    });
    test(34, "a change after it leaves what is saved", () -> {
      LineFollowerBench bench = saved("s5");
      bench.set(0, 7);
      bench.restore();
      bench.set(0, 8);
      bench.setPoint(1, 1);
      bench.setWeight(0, 9);
      bench.restore();
      is(64, () -> bench.setting(0));
      is(0, () -> bench.count(2));
      is(1, () -> bench.setWeight(0, 0));
    });
    test(34, "an empty table in place of a full one, and back", () -> {
      LineFollowerBench bench = new LineFollowerBench();
      bench.save();
      for (int k = 1; k <= 5; k++) {
        bench.setPoint(k, k);
      }
      bench.restore();
      is(0, () -> bench.count(2));
      bench.undo();
      same("1=1 2=2 3=3 4=4 5=5", points(bench));
    });
    test(34, "a full table in place of an empty one", () -> {
      LineFollowerBench bench = pointed(5);
      bench.save();
      for (int k = 1; k <= 5; k++) {
        bench.removePoint(k);
      }
      bench.restore();
      same("1=1 2=2 3=3 4=4 5=5", points(bench));
    });
    test(34, "the weights", () -> {
      LineFollowerBench bench = new LineFollowerBench();
      for (int k = 0; k < 5; k++) {
        bench.setWeight(k, k + 10);
      }
      bench.save();
      for (int k = 0; k < 5; k++) {
        bench.setWeight(k, 0);
      }
      bench.restore();
      for (int k = 0; k < 5; k++) {
        int part = k;
        is(part + 10, () -> bench.setWeight(part, 0));
      }
    });
    test(34, "the grid", () -> {
      LineFollowerBench bench = gridded(6);
      bench.save();
      for (int gain = 0; gain < 3; gain++) {
        bench.setGrid(gain, 0, 1, 1);
      }
      bench.restore();
      is(216, () -> bench.count(3));
    });
  }

  private static LineFollowerBench saved(String text) {
    LineFollowerBench bench = with(text);
    bench.save();
    type(bench, "r1:1;r2:2");
    bench.load();
    return bench;
  }

  private void restoreChanges() {
    test(34, "it is a change, also if nothing changes", () -> {
      LineFollowerBench bench = new LineFollowerBench();
      bench.save();
      is(0, bench::restore);
      is(1, () -> bench.count(6));
      is(0, bench::undo);
    });
    test(34, "it is one change, also if all changes, and is taken back", () -> {
      LineFollowerBench bench = THREE.get();
      bench.restore();
      is(4, () -> bench.count(6));
      is(3, bench::undo);
      sameState(Probe.ASPECTS, THREE, () -> {
        LineFollowerBench other = THREE.get();
        other.restore();
        other.undo();
        return other;
      });
    });
    test(34, "as the seventh change it makes the oldest forgotten", () -> {
      LineFollowerBench bench = new LineFollowerBench();
      bench.save();
      for (int k = 1; k <= 6; k++) {
        bench.set(0, k);
      }
      bench.restore();
      is(6, () -> bench.count(6));
      int[] values = {6, 5, 4, 3, 2, 1};
      for (int k = 0; k < 6; k++) {
        int value = values[k];
        is(5 - k, bench::undo);
        is(value, () -> bench.setting(0));
      }
      fails(STATE, bench::undo);
    });
    test(34, "undo of it leaves what is saved", () -> {
      LineFollowerBench bench = saved("s5");
      bench.restore();
      bench.undo();
      same("r1:1;r2:2", Due.described(bench));
      is(1, bench::restore);
      same("s5", Due.described(bench));
    });
  }

  private void restoreLeaves() {
    leaves(34, "restore", LineFollowerBench::restore);
    test(34, "no trace stays no trace", () -> {
      LineFollowerBench bench = saved("s5");
      bench.restore();
      is(0, () -> bench.count(7));
    });
    test(34, "a trace that came after save stays", () -> {
      LineFollowerBench bench = saved("s5");
      bench.set(13, 3);
      bench.run();
      bench.restore();
      is(3, () -> bench.count(7));
      is(60, () -> bench.setting(13));
    });
  }
}
