import java.lang.reflect.InvocationTargetException;
import java.lang.reflect.Method;
import java.util.ArrayList;
import java.util.Arrays;
import java.util.List;
import java.util.Random;

/**
 * Runs of random calls, each answer held against Plain; the seeds are fixed, so a run is always the same.
 * With arguments: how many runs, and the first seed.
 */
public final class RandomRunsTest {
  private static final int RUNS = 240;
  // An object is used for at most so many calls; a run makes them all.
  private static final int CALLS = 512;
  private static final String[] CHANGES = {"cut", "body", "retell", "sun", "moon", "sky", "swing", "share", "port",
      "rise", "pieces", "lay", "undo", "lay", "share", "rise"};

  private final Random random;
  private Moonwheels x;
  private Plain plain;

  private RandomRunsTest(long seed) {
    random = new Random(seed);
  }

  public static void main(String[] args) throws Exception {
    List<Method> methods = new ArrayList<>();
    for (Method m : Moonwheels.class.getDeclaredMethods()) {
      if (java.lang.reflect.Modifier.isPublic(m.getModifiers())) {
        methods.add(m);
      }
    }
    methods.sort((a, b) -> a.getName().compareTo(b.getName()));
    Check.is("methods of the face", methods.size(), 55);
    int runs = args.length > 0 ? Integer.parseInt(args[0]) : RUNS;
    int first = args.length > 1 ? Integer.parseInt(args[1]) : 0;
    for (int run = first; run < first + runs; run++) {
      new RandomRunsTest(run).go(run, methods);
    }
    Check.end("RandomRunsTest");
  }

  private void go(int run, List<Method> methods) throws Exception {
    x = new Moonwheels();
    plain = new Plain();
    // A run has its own taste, so that some fill the house and others look at it.
    int changing = random.nextInt(60);
    int used = 0;
    while (used < CALLS - 1) {
      Method m = methods.get(random.nextInt(methods.size()));
      if (random.nextInt(100) < changing) {
        m = named(methods, CHANGES[random.nextInt(CHANGES.length)]);
      }
      if (m.getName().startsWith("train") && random.nextInt(4) > 0) {
        continue;
      }
      one(run, used, m);
      used++;
      if (random.nextInt(4) == 0) {
        Check.is("run " + run + ", digest behind call " + used, x.digest(), plain.digest());
        used++;
      }
    }
    if (used < CALLS) {
      Check.is("run " + run + ", the last call", x.digest(), plain.digest());
    }
  }

  private static Method named(List<Method> methods, String name) {
    for (Method m : methods) {
      if (m.getName().equals(name)) {
        return m;
      }
    }
    throw new IllegalStateException(name);
  }

  private void one(int run, int call, Method m) throws Exception {
    Object[] values = new Object[m.getParameterCount()];
    for (int i = 0; i < values.length; i++) {
      boolean isFlag = m.getParameterTypes()[i] == boolean.class;
      values[i] = isFlag ? (Object) random.nextBoolean() : (Object) value(m, i, values);
    }
    Method other = Plain.class.getDeclaredMethod(m.getName(), m.getParameterTypes());
    Object due = answer(other, plain, values);
    Object got = answer(m, x, values);
    String told = "run " + run + ", call " + call + ": " + m.getName() + Arrays.toString(values);
    Check.is(told, got, due);
  }

  private static Object answer(Method m, Object on, Object[] values) throws Exception {
    try {
      return m.invoke(on, values);
    } catch (InvocationTargetException e) {
      return "throws " + e.getCause().getClass().getName();
    }
  }

  /** Mostly fitting, sometimes at an edge, now and then wrong. */
  private int value(Method m, int i, Object[] ahead) {
    int[] range = range(m.getName(), i, ahead);
    int least = range[0];
    int most = Math.max(range[0], range[1]);
    switch (random.nextInt(24)) {
      case 0: return least;
      case 1: return most;
      case 2: return random.nextInt(3) == 0 ? least - 1 : least;
      case 3: return random.nextInt(3) == 0 ? most + 1 : most;
      case 4: return random.nextInt(6) == 0 ? (random.nextBoolean() ? Integer.MIN_VALUE : Integer.MAX_VALUE) : most;
      case 5: case 6: case 7: case 8: case 9: case 10:
        return (int) Math.max(least, Math.min((long) most, (long) least + random.nextInt(13)));
      case 11: case 12: case 13: case 14: case 15:
        return Math.max(least, Math.min(most, random.nextInt(41) - 20));
      default: return (int) (least + Math.floorMod(random.nextLong(), (long) most - least + 1));
    }
  }

  private int count(int what) {
    return plain.house(what);
  }

  private static int number(Object[] values, int i) {
    return values[i] instanceof Integer ? (Integer) values[i] : 0;
  }

  private int[] range(String name, int i, Object[] v) {
    switch (name) {
      case "parts": case "middles": case "nears": return row(1, 9999);
      case "convergent": return i == 2 ? row(0, 12) : row(1, 9999);
      case "near": return i == 2 ? row(0, random.nextBoolean() ? 12 : 400) : row(1, 9999);
      case "nearest": case "below": case "above": return row(1, 9999);
      case "cut": return random.nextInt(3) == 0 ? row(6, 120) : row(6, 20);
      case "train": case "trainError": return i == 2 ? row(1, 3) : row(1, 9999);
      case "planets": return i == 0 ? row(6, 120) : i == 1 ? row(number(v, 0), 400) : row(0, 2);
      case "body": return i == 0 ? rounds() : i == 1 ? row(-10000, 10000) : row(0, number(v, 0) - 1);
      case "retell": return i == 0 ? index(1) : i == 1 ? rounds() : row(-10000, 10000);
      case "nextOf": case "aheadOf": case "many": return i == 0 ? index(1) : row(-100000, 100000);
      case "meet": case "again": case "window":
        return i == 0 ? row(1, (1 << count(1)) - 1) : row(-100000, 100000);
      case "event": return i == 0 ? row(-100000, 100000) : row(0, 30);
      case "inverse": return i == 0 ? row(-9999, 9999) : row(1, 9999);
      case "sun": return i == 0 ? row(20, 500) : i == 1 || i == 3 ? row(0, i == 1 ? 12 : number(v, 2) - 1)
          : i == 2 ? row(1, 500) : row(1, 20);
      case "moon": return i == 0 ? row(5, 60000) : i == 1 ? row(number(v, 0) / 60, number(v, 0) / 5)
          : i == 3 ? row(1, 500) : row(0, i == 2 ? 12 : number(v, 3) - 1);
      case "yearBegin": case "isLeap": case "drift": return i == 0 ? index(2) : row(-3000, 3000);
      case "leaps": return i == 0 ? index(2) : i == 1 ? row(-3000, 3000) : row(0, 1000);
      case "dayOf": return i == 0 ? index(2) : i == 1 ? row(-3000, 3000) : row(1, i == 2 ? 14 : 35);
      case "date": return i == 0 ? index(2) : row(-1000000, 1000000);
      case "turned": return i < 2 ? index(2) : i == 2 ? row(-3000, 3000) : row(1, i == 3 ? 14 : 35);
      case "civil": return row(-1000000, 1000000);
      case "fromCivil": return i == 0 ? row(-700, 4000) : i == 1 ? row(1, 12) : row(1, 31);
      case "feast": return i == 0 ? index(2) : i == 1 ? row(-3000, 3000) : i == 2 ? row(1, 14)
          : i == 3 ? index(1) : row(0, 6);
      case "sky": return i == 0 ? row(1, 1000) : i == 1 ? row(number(v, 0) + 1, 1799)
          : i == 2 ? row(-1000, 1000) : row(0, 900);
      case "eclipse": return row(-100000, 100000);
      case "eclipses": return i == 0 ? row(-100000, 100000) : row(0, 5000);
      case "skySlip": return row(0, 100000);
      case "swing": return i == 0 ? row(2, 12) : row(-1000, 1000);
      case "share": return i == 0 ? index(3) : i == 1 ? row(0, 12) : row(-99, 99);
      case "port": return row(-500, 500);
      case "rise": return i == 0 ? row(0, 11) : row(-9999, 9999);
      case "pieces": return row(1, 60);
      case "lay": return i == 0 ? (random.nextInt(3) == 0 ? row(-100000, 100000) : row(-12, 12)) : row(-1, 99);
      case "house": return row(0, 6);
      case "table": return i == 0 ? row(-100000, 100000) : row(1, 9);
      default: return row(-100000, 100000);
    }
  }

  private int[] rounds() {
    int kind = random.nextInt(3);
    return kind == 0 ? row(1, 5000) : kind == 1 ? row(4900, 5000) : row(1, 40);
  }

  private int[] index(int what) {
    return row(0, Math.max(0, count(what) - 1));
  }

  private static int[] row(int least, int most) {
    return new int[] {least, most};
  }
}
