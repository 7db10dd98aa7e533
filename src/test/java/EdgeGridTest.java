import java.lang.reflect.InvocationTargetException;
import java.lang.reflect.Method;
import java.util.ArrayList;
import java.util.Arrays;
import java.util.List;
import java.util.Random;

/** Each call with all its arguments at edges, each with each, on an empty, a nearly full and a full house, by Plain. */
public final class EdgeGridTest {
  private static final int MOST = 1500;
  private static final int CALLS = 90;
  private static final int[] FRACTION = {0, 1, 2, 9998, 9999, 10000};
  private static final int[] MOMENT = {-100001, -100000, -1, 0, 1, 100000, 100001};
  private static final int[] NUMBER = {-1, 0, 1, 2, 3, 4, 5, 6};
  private static final int[] YEAR = {-3001, -3000, -1, 0, 2, 3, 3000, 3001};
  private static final int[] CYCLE = {0, 1, 4, 500, 501};
  private static final int[] PART = {-1, 0, 3, 4, 499, 500};
  private static final int[] MONTH = {0, 1, 2, 12, 13, 14, 20, 21};
  private static final int[] DAY = {0, 1, 2, 28, 29, 30, 31, 32, 60, 61};
  private static final int[] SET = {-1, 0, 1, 3, 24, 31, 32, 48, 63, 64, 65};
  private static final int[][] ALMOST = {{0, 12}, {0, 15}, {0, 20}, {0, 30}, {0, 45}, {0, 60}, {0, 72},
      {1, 30, 2, 29}, {1, 12, 5, 2}, {1, 18, -1, 0}, {1, 35, 10000, 9}, {1, 4999, -9999, 4000},
      {2, 365, 1, 4, 0, 12}, {3, 59, 2, 7, 19, 0}, {2, 20, 3, 7, 6, 20}, {4, 10, 132, -2, 60},
      {5, 4, 3}, {5, 3, -1}, {6, 0, 1, 20}, {6, 0, 3, 40}, {6, 1, 0, -5}, {6, 1, 2, 7}, {7, 2},
      {8, 0, 17}, {8, 3, -200}, {8, 11, 9999}, {9, 29}, {10, -100000, 3}, {10, 0, 0}, {10, 3, 9}};
  private static final int[][] LAST = {{0, 96}, {1, 5000, -10000, 4999}, {3, 59061, 2000, 7, 19, 3},
      {4, 11, 143, -3, 70}, {5, 5, -4}, {6, 2, 4, 99}, {7, -7}, {8, 11, -9999}, {9, 13}, {11, 0, 20, 3}};
  private static final String[] CALLED = {"cut", "body", "sun", "moon", "sky", "swing", "share", "port", "rise",
      "pieces", "lay", "retell"};

  private Moonwheels x;
  private Plain plain;
  private int used;

  private EdgeGridTest() {}

  public static void main(String[] args) throws Exception {
    List<Method> methods = new ArrayList<>();
    for (Method m : Moonwheels.class.getDeclaredMethods()) {
      if (java.lang.reflect.Modifier.isPublic(m.getModifiers())) {
        methods.add(m);
      }
    }
    methods.sort((a, b) -> a.getName().compareTo(b.getName()));
    for (Method m : methods) {
      for (int house = 0; house < 3; house++) {
        new EdgeGridTest().grid(m, house);
      }
    }
    Check.end("EdgeGridTest");
  }

  private void grid(Method m, int house) throws Exception {
    List<Object[]> rows = new ArrayList<>();
    gather(m, new Object[m.getParameterCount()], 0, rows);
    // Too many for all: some of them, always the same ones.
    java.util.Collections.shuffle(rows, new Random(m.getName().hashCode()));
    used = CALLS;
    for (Object[] row : rows.subList(0, Math.min(rows.size(), MOST))) {
      if (used >= CALLS) {
        build(house);
        used = 0;
      }
      used += 4;
      one(m, row, house);
    }
  }

  private void gather(Method m, Object[] row, int i, List<Object[]> rows) {
    if (i == row.length) {
      rows.add(row.clone());
      return;
    }
    if (m.getParameterTypes()[i] == boolean.class) {
      for (boolean b : new boolean[] {false, true}) {
        row[i] = b;
        gather(m, row, i + 1, rows);
      }
      return;
    }
    for (int v : edges(m.getName(), i)) {
      row[i] = v;
      gather(m, row, i + 1, rows);
    }
  }

  private void build(int house) throws Exception {
    x = new Moonwheels();
    plain = new Plain();
    for (int[] row : house > 0 ? ALMOST : new int[0][]) {
      tell(row);
    }
    for (int i = 0; house > 0 && i < 16; i++) {
      tell(new int[] {10, 100 + i, i});
    }
    for (int[] row : house > 1 ? LAST : new int[0][]) {
      tell(row);
    }
    if (house > 1) {
      tell(new int[] {10, 99999, 99});
    }
  }

  private void tell(int[] row) throws Exception {
    Object[] values = new Object[row.length - 1];
    Class<?>[] types = new Class<?>[row.length - 1];
    for (int i = 0; i < values.length; i++) {
      values[i] = row[i + 1];
      types[i] = int.class;
    }
    Moonwheels.class.getMethod(CALLED[row[0]], types).invoke(x, values);
    Plain.class.getDeclaredMethod(CALLED[row[0]], types).invoke(plain, values);
  }

  private void one(Method m, Object[] row, int house) throws Exception {
    Method other = Plain.class.getDeclaredMethod(m.getName(), m.getParameterTypes());
    int kept = plain.house(5);
    Object due = answer(other, plain, row);
    String told = "house " + house + ": " + m.getName() + Arrays.toString(row);
    Check.is(told, answer(m, x, row), due);
    boolean isChange = Arrays.asList(CALLED).contains(m.getName());
    if (isChange && (kept == 10 || plain.house(5) != kept) && !due.toString().startsWith("throws")) {
      Check.is(told + ", digest()", x.digest(), plain.digest());
      Check.is(told + ", undo()", x.undo(), plain.undo());
      Check.is(told + ", undo(), digest()", x.digest(), plain.digest());
      used = CALLS;
    }
  }

  private static Object answer(Method m, Object on, Object[] values) throws Exception {
    try {
      return m.invoke(on, values);
    } catch (InvocationTargetException e) {
      return "throws " + e.getCause().getClass().getName();
    }
  }

  private static int[] row(int... values) {
    return values;
  }

  private static int[] edges(String name, int i) {
    switch (name) {
      case "parts": case "middles": case "nears": return FRACTION;
      case "convergent": case "near": return i < 2 ? FRACTION : row(-1, 0, 1, 2, 3, 4999, 5000, Integer.MAX_VALUE);
      case "nearest": case "below": case "above": return FRACTION;
      case "cut": return row(5, 6, 12, 72, 96, 120, 121);
      case "train": case "trainError": return i < 2 ? row(0, 1, 7, 9999, 10000) : row(0, 1, 2, 3, 4);
      case "planets": return i == 0 ? row(5, 6, 7, 119, 120, 121) : i == 1 ? row(5, 6, 7, 8, 9, 120, 122, 399, 400, 401,
          402) : row(-1, 0, 1, 2, 3);
      case "body": return i == 0 ? row(0, 1, 2, 5000, 5001) : i == 1 ? row(-10001, -10000, 0, 10000, 10001)
          : row(-1, 0, 1, 2, 4999, 5000);
      case "retell": return i == 0 ? NUMBER : i == 1 ? row(0, 1, 2, 29, 30, 5000, 5001)
          : row(-10001, -10000, 0, 10000, 10001);
      case "nextOf": case "aheadOf": case "many": return i == 0 ? NUMBER : MOMENT;
      case "meet": case "window": return i == 0 ? SET : MOMENT;
      case "again": return SET;
      case "event": return i == 0 ? MOMENT : row(-1, 0, 1, 29, 30, 31);
      case "inverse": return i == 0 ? row(-10000, -9999, -2, -1, 0, 1, 2, 3, 9998, 9999, 10000)
          : row(0, 1, 2, 3, 9998, 9999, 10000);
      case "sun": return i == 0 ? row(19, 20, 500, 501) : i == 2 ? CYCLE : i < 4 ? PART : row(0, 1, 20, 21);
      case "moon": return i == 0 ? row(4, 5, 60, 61, 49994, 49995, 599940, 599941) : i == 1 ? row(0, 1, 9999, 10000)
          : i == 3 ? CYCLE : PART;
      case "leaps": return i == 0 ? NUMBER : i == 1 ? YEAR : row(-1, 0, 1, 999, 1000, 1001);
      case "yearBegin": case "isLeap": case "drift": return i == 0 ? NUMBER : YEAR;
      case "dayOf": return i == 0 ? NUMBER : i == 1 ? YEAR : i == 2 ? MONTH : DAY;
      case "turned": return i < 2 ? row(-1, 0, 1, 2, 3, 4) : i == 2 ? YEAR : i == 3 ? MONTH : DAY;
      case "date": return i == 0 ? NUMBER : row(-1000001, -1000000, -1, 0, 364, 365, 1000000, 1000001);
      case "civil": return row(-1000001, -1000000, -719529, -719528, -1, 0, 1000000, 1000001);
      case "fromCivil": return i == 0 ? row(-701, -700, -400, -1, 0, 1, 1900, 2000, 4000, 4001)
          : i == 1 ? row(0, 1, 2, 4, 12, 13) : row(0, 1, 28, 29, 30, 31, 32);
      case "feast": return i == 0 ? row(-1, 0, 1, 2, 3, 4) : i == 1 ? YEAR : i == 2 ? MONTH
          : i == 3 ? row(-1, 0, 4, 5, 6) : row(-1, 0, 6, 7);
      case "sky": return i == 0 ? row(0, 1, 2, 1000, 1001) : i == 1 ? row(0, 1, 2, 3, 1000, 1001, 1799, 1800)
          : i == 2 ? row(-1001, -1000, 0, 1000, 1001) : row(-1, 0, 900, 901);
      case "eclipse": return MOMENT;
      case "eclipses": return i == 0 ? MOMENT : row(-1, 0, 1, 4999, 5000, 5001);
      case "skySlip": return row(-1, 0, 1, 99999, 100000, 100001);
      case "swing": return i == 0 ? row(1, 2, 12, 13) : row(-1001, -1000, 0, 1000, 1001);
      case "share": return i == 0 ? row(-1, 0, 1, 2, 3) : i == 1 ? row(-1, 0, 2, 3, 4, 5, 11, 12)
          : row(-100, -99, 0, 99, 100);
      case "port": return row(-501, -500, 0, 500, 501);
      case "table": return i == 0 ? MOMENT : row(0, 1, 2, 8, 9, 10);
      case "rise": return i == 0 ? row(-1, 0, 11, 12) : row(-10000, -9999, 0, 9999, 10000);
      case "pieces": return row(0, 1, 30, 60, 61);
      case "lay": return i == 0 ? row(-100001, -100000, -99999, 0, 4, 99999, 100000, 100001) : row(-2, -1, 0, 99, 100);
      case "house": return row(-1, 0, 1, 2, 3, 4, 5, 6, 7);
      default: return MOMENT;
    }
  }
}
