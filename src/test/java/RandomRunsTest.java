import java.lang.reflect.InvocationTargetException;
import java.lang.reflect.Method;
import java.util.ArrayList;
import java.util.List;
import java.util.Random;
import java.util.StringJoiner;

/** All promises: random runs of calls, each answer compared with the one of ReferenceBench. */
public final class RandomRunsTest {
  private static final int RUNS = 300;
  private static final int CALLS = 512;
  private static final int[][] RANGES = {
    {0, 999}, {0, 999}, {0, 999}, {1, 1000}, {1, 1000}, {1, 100}, {0, 5}, {0, 3}, {0, 100000}, {0, 64},
    {0, 2}, {0, 1000}, {-2000, 2000}, {1, 200}, {0, 1000}};

  private final Due due = new Due("RandomRunsTest");
  private final List<Method> methods = new ArrayList<>();
  private Random random = new Random(0);
  private LineFollowerBench bench;
  private ReferenceBench reference;

  public static void main(String[] args) throws Exception {
    new RandomRunsTest().all();
  }

  private void all() throws Exception {
    for (Method method : LineFollowerBench.class.getDeclaredMethods()) {
      if (java.lang.reflect.Modifier.isPublic(method.getModifiers())) {
        methods.add(method);
      }
    }
    methods.sort((a, b) -> a.getName().compareTo(b.getName()));
    for (int run = 0; run < RUNS; run++) {
      random = new Random(run);
      bench = new LineFollowerBench();
      reference = new ReferenceBench();
      int calls = 0;
      while (calls < CALLS) {
        calls += random.nextInt(12) == 0 ? text() : one();
      }
    }
    due.end();
  }

  /** Types a text, most often a right one, and loads it: some twenty calls. */
  private int text() throws Exception {
    String text = randomText();
    int calls = 0;
    for (int at = 0; at < text.length(); at += 4) {
      int packed = 0;
      for (int k = at; k < Math.min(at + 4, text.length()); k++) {
        packed = packed << 8 | text.charAt(k);
      }
      both(named("append"), packed);
      calls++;
    }
    both(named("load"));
    both(named("errorPosition"));
    both(named("describe"), -1);
    for (int k = 0; k < 3; k++) {
      both(named("describe"), random.nextInt(50));
    }
    return calls + 6;
  }

  private String randomText() {
    StringJoiner text = new StringJoiner(";");
    int parts = random.nextInt(6) == 0 ? random.nextInt(12) : 1 + random.nextInt(4);
    for (int k = 0; k < parts; k++) {
      boolean isShort = parts > 5;
      int length = random.nextInt(isShort ? 9 : 99) + 1;
      String curvature = ":" + (random.nextInt(isShort ? 10 : 101) - (isShort ? 0 : 50));
      String[] all = {"s" + length, "b" + length + curvature, "r" + length + curvature,
        "p" + random.nextInt(isShort ? 10 : 60) + ":" + (random.nextInt(1001) - 500) + "*" + length};
      text.add(all[random.nextInt(4)]);
    }
    StringBuilder signs = new StringBuilder(text.toString());
    int errors = random.nextInt(3) == 0 ? 1 + random.nextInt(2) : 0;
    for (int k = 0; k < errors && signs.length() > 0; k++) {
      char sign = "0123456789;:*-sbrp!9".charAt(random.nextInt(20));
      int at = random.nextInt(signs.length());
      switch (random.nextInt(3)) {
        case 0 -> signs.setCharAt(at, sign);
        case 1 -> signs.insert(at, sign);
        default -> signs.deleteCharAt(at);
      }
    }
    return signs.toString();
  }

  private int one() throws Exception {
    Method method = methods.get(random.nextInt(methods.size()));
    String name = method.getName();
    boolean isDear = name.equals("search") || name.equals("climb") || name.equals("lowest");
    if (isDear && random.nextInt(4) != 0) {
      return 0;
    }
    if (name.equals("load") && random.nextInt(4) != 0) {
      return 0;
    }
    both(method, arguments(method));
    return 1;
  }

  private Method named(String name) {
    return methods.stream().filter(method -> method.getName().equals(name)).findFirst().orElseThrow();
  }

  private int about(int least, int most) {
    switch (random.nextInt(24)) {
      case 0: return least - 1;
      case 1: return most + 1;
      case 2: return least;
      case 3: return most;
      case 4: return random.nextBoolean() ? Integer.MIN_VALUE : Integer.MAX_VALUE;
      default: return least + random.nextInt(most - least + 1);
    }
  }

  private Object[] arguments(Method method) {
    switch (method.getName()) {
      case "set": return setArguments();
      case "setting": return new Object[] {about(0, 14)};
      case "setPoint": return new Object[] {random.nextInt(4) == 0 ? about(-10000, 10000) : about(-9, 9) * 50,
        about(-1000, 1000)};
      case "removePoint": return new Object[] {about(-9, 9) * 50};
      case "point": return new Object[] {about(0, 4), about(0, 1)};
      case "table": return new Object[] {random.nextInt(4) == 0 ? about(-10000, 10000) : about(-500, 500)};
      case "setWeight": return new Object[] {about(0, 4), about(0, 99)};
      case "setGrid": return new Object[] {about(0, 2), random.nextInt(3) == 0 ? about(0, 999) : about(0, 60),
        random.nextInt(3) == 0 ? about(1, 200) : about(1, 40), about(1, 6)};
      case "append":
        return new Object[] {random.nextInt(6) == 0 ? random.nextInt() : (int) "s1;b".charAt(random.nextInt(4))};
      case "describe": return new Object[] {about(-1, 49)};
      case "curvature": case "push": return new Object[] {about(0, 199)};
      case "trace": return new Object[] {aboutStep(), about(0, 5)};
      case "reason": return new Object[] {aboutStep()};
      case "measure": case "count": return new Object[] {about(0, 7)};
      case "compare": return new Object[] {about(0, 2)};
      case "found": return new Object[] {random.nextBoolean(), about(0, 3)};
      case "foundCost": case "apply": return new Object[] {random.nextBoolean()};
      case "lowest": return new Object[] {about(0, 3), aboutCost()};
      default: return new Object[0];
    }
  }

  private int aboutStep() {
    return about(0, Math.max(1, reference.count(7)));
  }

  private long aboutCost() {
    if (random.nextInt(8) == 0) {
      return random.nextLong();
    }
    try {
      return reference.cost() * (90 + random.nextInt(30)) / 100;
    } catch (IllegalStateException e) {
      return random.nextInt(50000);
    }
  }

  private Object[] setArguments() {
    int setting = about(0, 14);
    if (setting < 0 || setting > 14) {
      return new Object[] {setting, random.nextInt()};
    }
    boolean isSmall = random.nextInt(3) != 0;
    if (setting == 13 && isSmall) {
      return new Object[] {setting, about(1, 25)};
    }
    if (setting < 3 && isSmall) {
      return new Object[] {setting, about(0, 80)};
    }
    if (setting == 12 && isSmall) {
      return new Object[] {setting, about(-60, 60)};
    }
    return new Object[] {setting, about(RANGES[setting][0], RANGES[setting][1])};
  }

  private void both(Method method, Object... arguments) throws Exception {
    String got = answer(bench, method, arguments);
    Method other = ReferenceBench.class.getMethod(method.getName(), method.getParameterTypes());
    String wanted = answer(reference, other, arguments);
    due.compare(method.getName() + java.util.Arrays.toString(arguments), wanted, got);
  }

  private static String answer(Object object, Method method, Object[] arguments) throws Exception {
    try {
      return String.valueOf(method.invoke(object, arguments));
    } catch (InvocationTargetException e) {
      return e.getCause().getClass().getName();
    }
  }
}
