/** Promises 10 to 13: wheels. */
public final class WheelsTest {
  private static final Class<IllegalArgumentException> BAD = IllegalArgumentException.class;
  private static final Class<IllegalStateException> STATE = IllegalStateException.class;

  public static void main(String[] args) {
    cuts();
    trains();
    errors();
    planetsTurn();
    Check.end("WheelsTest");
  }

  private static void cuts() {
    Moonwheels x = new Moonwheels();
    for (int teeth : new int[] {5, 121, 0, -6, Integer.MAX_VALUE, Integer.MIN_VALUE}) {
      Check.no("cut(" + teeth + ")", x, BAD, () -> x.cut(teeth));
    }
    Check.is("cut(6)", x.cut(6), 1);
    Check.is("cut(120)", x.cut(120), 2);
    Check.is("cut(6) once more", x.cut(6), 2);
    Check.is("house(5): only two CHANGES", x.house(5), 2);
    for (int i = 0; i < 6; i++) {
      Check.is("cut", x.cut(20 + i), 3 + i);
    }
    Check.no("a ninth size", x, STATE, () -> x.cut(7));
    Check.no("a bad ninth size", x, BAD, () -> x.cut(5));
    Check.is("cut(120) of 8", x.cut(120), 8);
    Check.is("house(5)", x.house(5), 8);
    Check.is("undo", x.undo(), 7);
    Check.is("house(0)", x.house(0), 7);
    Check.is("25 is gone", x.train(25, 6, 1), "24>6");
    Check.is("cut(7)", x.cut(7), 8);
    Check.is("cut in between", x.train(7, 6, 1), "7>6");
    Check.is("undo", x.undo(), 7);
    Check.is("7 is gone", x.train(7, 6, 1), "23>20");
  }

  private static void trains() {
    Moonwheels x = new Moonwheels();
    Check.no("nothing is CUT", x, STATE, () -> x.train(1, 1, 1));
    Check.no("pairs named first", x, BAD, () -> x.train(1, 1, 0));
    Check.no("fraction named first", x, BAD, () -> x.train(0, 1, 1));
    x.cut(30);
    for (int pairs : new int[] {0, 4, -1, Integer.MAX_VALUE, Integer.MIN_VALUE}) {
      Check.no("train pairs", x, BAD, () -> x.train(1, 1, pairs));
      Check.no("trainError pairs", x, BAD, () -> x.trainError(1, 1, pairs));
    }
    Check.no("train 0", x, BAD, () -> x.train(1, 0, 1));
    Check.no("train 10000", x, BAD, () -> x.train(10000, 1, 1));
    Check.is("one size", x.train(9999, 1, 3), "30 30 30>30 30 30");
    x.cut(60);
    x.cut(15);
    x.cut(20);
    // 2: 30>15, 60>30: the fewest teeth
    Check.is("fewest teeth", x.train(2, 1, 1), "30>15");
    Check.is("two pairs", x.train(2, 1, 2), "15 30>15 15");
    Check.is("equal teeth: smallest first driver", x.train(1, 1, 2), "15 15>15 15");
    Check.is("8", x.train(8, 1, 3), "30 30 30>15 15 15");
    Check.is("16", x.train(16, 1, 3), "30 30 60>15 15 15");
    // also 20 20 20>15 15 15, and 15 30 ..: least error goes ahead of few teeth
    Check.is("64/27", x.train(64, 27, 3), "20 20 20>15 15 15");
    Check.is("two smallest ways of 2/3, with equal teeth", x.train(1, 2, 3), "15 15 15>15 15 30");
    Check.is("3/4", x.train(3, 4, 1), "15>20");
    Check.is("4/3", x.train(4, 3, 2), "15 20>15 15");
    Moonwheels y = new Moonwheels();
    for (int teeth : new int[] {12, 8, 6, 10, 9}) {
      y.cut(teeth);
    }
    Check.is("drivers ahead of driven", y.train(4, 3, 2), "6 8>6 6");
    Check.is("below a wheel", y.train(1, 9999, 3), "6 6 6>12 12 12");
  }

  private static void errors() {
    Moonwheels x = new Moonwheels();
    Check.no("nothing is CUT", x, STATE, () -> x.trainError(1, 1, 1));
    Check.no("pairs named first", x, BAD, () -> x.trainError(1, 1, 4));
    Check.no("fraction named first", x, BAD, () -> x.trainError(1, 0, 1));
    x.cut(120);
    Check.is("none", x.trainError(1, 1, 3), "0/1");
    Check.is("below the asked one", x.trainError(9999, 1, 1), "9998/1");
    x.cut(119);
    // (119 / 120)^3 less 1 / 9999
    Check.is("an error beyond the int ones", x.trainError(1, 9999, 3), due119());
  }

  private static String due119() {
    java.math.BigInteger upper = java.math.BigInteger.valueOf(119L * 119 * 119 * 9999 - 120L * 120 * 120);
    java.math.BigInteger lower = java.math.BigInteger.valueOf(120L * 120 * 120 * 9999);
    java.math.BigInteger common = upper.gcd(lower);
    return upper.divide(common) + "/" + lower.divide(common);
  }

  private static void planetsTurn() {
    Moonwheels x = new Moonwheels();
    Check.is("planets(6, 8, 0)", x.planets(6, 8, 0), "3/7");
    Check.is("planets(6, 8, 1)", x.planets(6, 8, 1), "4/7");
    Check.is("planets(6, 8, 2)", x.planets(6, 8, 2), "-3/4");
    Check.is("planets(120, 400, 0)", x.planets(120, 400, 0), "3/13");
    Check.is("planets(120, 400, 2)", x.planets(120, 400, 2), "-3/10");
    int[][] bad = {{5, 9, 0}, {121, 123, 0}, {120, 402, 0}, {7, 5, 0}, {6, 6, 0}, {6, 9, 0}, {6, 8, 3}, {6, 8, -1},
        {Integer.MIN_VALUE, 8, 0}, {6, Integer.MAX_VALUE, 0}, {6, Integer.MIN_VALUE, 0}};
    for (int[] p : bad) {
      Check.no("planets", x, BAD, () -> x.planets(p[0], p[1], p[2]));
    }
  }
}
