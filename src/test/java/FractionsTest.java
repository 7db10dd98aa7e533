/** Promises 1 to 9, and 23: a new object, fractions, and inverse. */
public final class FractionsTest {
  private static final Class<IllegalArgumentException> BAD = IllegalArgumentException.class;

  public static void main(String[] args) {
    newObject();
    askedFractions();
    partsAndConvergents();
    middlesOf();
    nearOnes();
    boundsOf();
    inverses();
    Check.end("FractionsTest");
  }

  private static void newObject() {
    Moonwheels x = new Moonwheels();
    for (int what = 0; what <= 6; what++) {
      Check.is("house(" + what + ")", x.house(what), 0);
    }
    Check.is("marks", x.marks(-100000, 100000), "");
    Check.is("height", x.height(0), 0);
    Check.is("rising", x.rising(31), 0);
    Check.is("pieces", x.pieces(5), 30);
    Check.is("port", x.port(5), 0);
    Check.is("isSound", x.isSound(), true);
  }

  /** All calls that ask a fraction refuse the same ones. */
  private static void askedFractions() {
    Moonwheels x = new Moonwheels();
    int[][] bad = {{0, 1}, {1, 0}, {10000, 1}, {1, 10000}, {-1, 1}, {1, -1},
        {Integer.MIN_VALUE, 1}, {1, Integer.MAX_VALUE}, {0, 0}};
    for (int[] f : bad) {
      Check.no("parts", x, BAD, () -> x.parts(f[0], f[1]));
      Check.no("convergent", x, BAD, () -> x.convergent(f[0], f[1], 0));
      Check.no("middles", x, BAD, () -> x.middles(f[0], f[1]));
      Check.no("near", x, BAD, () -> x.near(f[0], f[1], 0));
      Check.no("nears", x, BAD, () -> x.nears(f[0], f[1]));
      Check.no("nearest", x, BAD, () -> x.nearest(f[0], f[1], 1));
      Check.no("below", x, BAD, () -> x.below(f[0], f[1], 1));
      Check.no("above", x, BAD, () -> x.above(f[0], f[1], 1));
    }
    Check.no("convergent k", x, BAD, () -> x.convergent(1, 1, -1));
    Check.no("near k", x, BAD, () -> x.near(1, 1, -1));
    for (int most : new int[] {0, -1, 10000, Integer.MAX_VALUE, Integer.MIN_VALUE}) {
      Check.no("nearest most", x, BAD, () -> x.nearest(1, 1, most));
      Check.no("below most", x, BAD, () -> x.below(1, 1, most));
      Check.no("above most", x, BAD, () -> x.above(1, 1, most));
    }
  }

  private static void partsAndConvergents() {
    Moonwheels x = new Moonwheels();
    Check.is("parts(1, 1)", x.parts(1, 1), "1");
    Check.is("parts(1, 2)", x.parts(1, 2), "0;2");
    Check.is("parts(6765, 4181)", x.parts(6765, 4181), "1;1,1,1,1,1,1,1,1,1,1,1,1,1,1,1,1,2");
    Check.is("parts(9999, 9999)", x.parts(9999, 9999), "1");
    Check.is("parts(9998, 9999)", x.parts(9998, 9999), "0;1,9998");
    Check.is("parts(3652, 10)", x.parts(3652, 10), "365;5");
    Check.is("convergent(1, 2, 0)", x.convergent(1, 2, 0), "0/1");
    Check.is("convergent(1, 2, 1)", x.convergent(1, 2, 1), "1/2");
    Check.is("convergent(1, 2, 2)", x.convergent(1, 2, 2), "-");
    Check.is("convergent(14, 6, 1)", x.convergent(14, 6, 1), "7/3");
    Check.is("convergent(6765, 4181, 9)", x.convergent(6765, 4181, 9), "89/55");
    Check.is("convergent(6765, 4181, 17)", x.convergent(6765, 4181, 17), "6765/4181");
    Check.is("convergent(7, 1, max)", x.convergent(7, 1, Integer.MAX_VALUE), "-");
  }

  private static void middlesOf() {
    Moonwheels x = new Moonwheels();
    Check.is("middles(9999, 1)", x.middles(9999, 1), "R9998");
    Check.is("middles(1, 9999)", x.middles(1, 9999), "L9998");
    Check.is("middles(3, 2)", x.middles(3, 2), "R1L1");
    Check.is("middles(2, 1)", x.middles(2, 1), "R1");
    Check.is("middles(4, 4)", x.middles(4, 4), "");
    Check.is("middles(1, 2)", x.middles(1, 2), "L1");
    Check.is("middles(10, 4)", x.middles(10, 4), "R2L1");
  }

  private static void nearOnes() {
    Moonwheels x = new Moonwheels();
    Check.is("near(1, 3, 0)", x.near(1, 3, 0), "0/1");
    Check.is("near(1, 3, 1)", x.near(1, 3, 1), "1/2");
    Check.is("near(1, 3, 2)", x.near(1, 3, 2), "1/3");
    Check.is("near(1, 3, 3)", x.near(1, 3, 3), "-");
    Check.is("near(4, 2, 0)", x.near(4, 2, 0), "2/1");
    Check.is("near max", x.near(355, 113, Integer.MAX_VALUE), "-");
    String[] due = {"3/1", "13/4", "16/5", "19/6", "22/7", "179/57", "201/64", "223/71", "245/78", "267/85",
        "289/92", "311/99", "333/106", "355/113", "-"};
    for (int k = 0; k < due.length; k++) {
      Check.is("near(355, 113, " + k + ")", x.near(355, 113, k), due[k]);
    }
    Check.is("nears(4, 2)", x.nears(4, 2), 1);
    Check.is("nears(1, 9999)", x.nears(1, 9999), 5001);
    Check.is("near(1, 9999, 1)", x.near(1, 9999, 1), "1/5000");
    Check.is("nearest(1, 9999, 5000)", x.nearest(1, 9999, 5000), "1/5000");
    Check.is("nearest(1, 9999, 4999)", x.nearest(1, 9999, 4999), "0/1");
    Check.is("nearest(3, 2, 1)", x.nearest(3, 2, 1), "1/1");
    Check.is("nearest(1, 10, 5)", x.nearest(1, 10, 5), "0/1");
    Check.is("nearest(5, 12, 3)", x.nearest(5, 12, 3), "1/2");
    Check.is("nearest(9999, 9998, 9997)", x.nearest(9999, 9998, 9997), "9998/9997");
    naiveNears(x);
  }

  /** By the words: each other fraction with a lower number of 1 to b is farther. */
  private static void naiveNears(Moonwheels x) {
    for (int top = 1; top <= 24; top++) {
      for (int bottom = 1; bottom <= 24; bottom++) {
        int count = 0;
        for (int b = 1; b <= bottom; b++) {
          for (int a = 0; a <= top * b; a++) {
            if (gcd(a, b) == 1 && isNear(top, bottom, a, b)) {
              Check.is("near(" + top + ", " + bottom + ", " + count + ")", x.near(top, bottom, count), a + "/" + b);
              count++;
              if (count == 400) {
                x = new Moonwheels();
              }
            }
          }
        }
        x = new Moonwheels();
        Check.is("nears(" + top + ", " + bottom + ")", x.nears(top, bottom), count);
      }
    }
  }

  private static boolean isNear(int top, int bottom, int a, int b) {
    long mine = Math.abs((long) top * b - (long) a * bottom);
    for (int d = 1; d <= b; d++) {
      for (int c = 0; c <= 2 * top * d / bottom + 2; c++) {
        long other = Math.abs((long) top * d - (long) c * bottom);
        if (a * d != c * b && other * b <= mine * d) {
          return false;
        }
      }
    }
    return true;
  }

  private static int gcd(int a, int b) {
    return b == 0 ? a : gcd(b, a % b);
  }

  private static void boundsOf() {
    Moonwheels x = new Moonwheels();
    Check.is("below(1, 2, 1)", x.below(1, 2, 1), "0/1");
    Check.is("below(1, 2, 2)", x.below(1, 2, 2), "1/2");
    Check.is("below(2, 4, 9999)", x.below(2, 4, 9999), "1/2");
    Check.is("below(9999, 1, 1)", x.below(9999, 1, 1), "9999/1");
    Check.is("below(9998, 9999, 9998)", x.below(9998, 9999, 9998), "9997/9998");
    Check.is("above(1, 9999, 9998)", x.above(1, 9999, 9998), "1/9998");
    Check.is("above(1, 9999, 9999)", x.above(1, 9999, 9999), "1/9999");
    Check.is("above(1, 9999, 1)", x.above(1, 9999, 1), "1/1");
    Check.is("above(9999, 2, 1)", x.above(9999, 2, 1), "5000/1");
    Check.is("above(4, 2, 7)", x.above(4, 2, 7), "2/1");
    Check.is("below(3652, 10, 4)", x.below(3652, 10, 4), "365/1");
    Check.is("above(3652, 10, 4)", x.above(3652, 10, 4), "1461/4");
  }

  private static void inverses() {
    Moonwheels x = new Moonwheels();
    Check.is("inverse(3, 7)", x.inverse(3, 7), 5);
    Check.is("inverse(0, 1)", x.inverse(0, 1), 0);
    Check.is("inverse(0, 2)", x.inverse(0, 2), -1);
    Check.is("inverse(1, 2)", x.inverse(1, 2), 1);
    Check.is("inverse(9999, 9998)", x.inverse(9999, 9998), 1);
    Check.is("inverse(-9999, 9998)", x.inverse(-9999, 9998), 9997);
    Check.is("inverse(-1, 9999)", x.inverse(-1, 9999), 9998);
    Check.is("inverse(6, 9999)", x.inverse(6, 9999), -1);
    for (int a : new int[] {-10000, 10000, Integer.MIN_VALUE, Integer.MAX_VALUE}) {
      Check.no("inverse a", x, BAD, () -> x.inverse(a, 5));
    }
    for (int n : new int[] {0, -1, 10000, Integer.MIN_VALUE, Integer.MAX_VALUE}) {
      Check.no("inverse n", x, BAD, () -> x.inverse(3, n));
    }
    for (int n = 1; n <= 40; n++) {
      Moonwheels y = new Moonwheels();
      for (int a = -60; a <= 60; a++) {
        int due = -1;
        for (int k = n - 1; k >= 0; k--) {
          due = Math.floorMod(a * k, n) == 1 % n ? k : due;
        }
        Check.is("inverse(" + a + ", " + n + ")", y.inverse(a, n), due);
      }
    }
  }
}
