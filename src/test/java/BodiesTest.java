import java.math.BigInteger;

/** Promises 14 to 22: bodies. */
public final class BodiesTest {
  private static final Class<IllegalArgumentException> BAD = IllegalArgumentException.class;
  private static final Class<IllegalStateException> STATE = IllegalStateException.class;
  private static final Class<IndexOutOfBoundsException> GONE = IndexOutOfBoundsException.class;
  private static final int[] FAR = {-100001, 100001, Integer.MIN_VALUE, Integer.MAX_VALUE};

  public static void main(String[] args) {
    tellingBodies();
    retelling();
    moments();
    sets();
    scannedMeetings();
    longRounds();
    windows();
    events();
    Check.end("BodiesTest");
  }

  private static void tellingBodies() {
    Moonwheels x = new Moonwheels();
    int[][] bad = {{0, 0, 0}, {5001, 0, 0}, {-1, 0, 0}, {1, -10001, 0}, {1, 10001, 0}, {1, 0, 1}, {5, 0, -1}, {5, 0, 5},
        {Integer.MIN_VALUE, 0, 0}, {Integer.MAX_VALUE, 0, 0}, {5, Integer.MAX_VALUE, 0}, {5, 0, Integer.MAX_VALUE}};
    for (int[] b : bad) {
      Check.no("body", x, BAD, () -> x.body(b[0], b[1], b[2]));
    }
    Check.is("body(1, -10000, 0)", x.body(1, -10000, 0), 0);
    Check.is("body(5000, 10000, 4999)", x.body(5000, 10000, 4999), 1);
    for (int i = 2; i < 6; i++) {
      Check.is("body", x.body(7, i, 3), i);
    }
    Check.no("a seventh", x, STATE, () -> x.body(1, 0, 0));
    Check.no("a bad seventh", x, BAD, () -> x.body(0, 0, 0));
    Check.is("house(1)", x.house(1), 6);
    Check.is("house(5)", x.house(5), 6);
    Check.is("undo", x.undo(), 5);
    Check.is("house(1)", x.house(1), 5);
    Check.no("5 is gone", x, GONE, () -> x.nextOf(5, 0));
    Check.is("a sixth anew", x.body(9, 1, 8), 5);
    Check.is("nextOf(5, 2)", x.nextOf(5, 2), 10);
  }

  private static void retelling() {
    Moonwheels x = new Moonwheels();
    Check.no("no BODY", x, GONE, () -> x.retell(0, 0, 0));
    x.body(20, 3, 12);
    for (int body : new int[] {-1, 1, 6, Integer.MIN_VALUE, Integer.MAX_VALUE}) {
      Check.no("retell " + body, x, GONE, () -> x.retell(body, 0, 0));
    }
    int[][] bad = {{0, 0}, {5001, 0}, {1, 10001}, {1, -10001}, {Integer.MIN_VALUE, 0}};
    for (int[] b : bad) {
      Check.no("retell", x, BAD, () -> x.retell(0, b[0], b[1]));
    }
    Check.is("house(5)", x.house(5), 1);
    Check.is("retell(0, 10, 0)", x.retell(0, 10, 0), 20);
    // The SLIP is 9 now: NEAR always.
    Check.is("window(1, 9)", x.window(1, 9), "9");
    Check.is("retell(0, 30, 0)", x.retell(0, 30, 0), 10);
    Check.is("SLIP 9 is kept", x.window(1, 10), "30");
    Check.is("near at 9", x.window(1, 9), "9");
    Check.is("undo", x.undo(), 2);
    Check.is("undo", x.undo(), 1);
    Check.is("SLIP 12 is there again", x.window(1, 15), "15");
    Check.is("not at 16", x.window(1, 16), "23");
    Check.is("nextOf(0, 0)", x.nextOf(0, 0), 3);
    Check.is("told as it was", x.retell(0, 20, 3), 20);
    Check.is("that is a CHANGE too", x.house(5), 2);
  }

  private static void moments() {
    Moonwheels x = new Moonwheels();
    x.body(7, 2, 0);
    x.body(5000, -10000, 0);
    Check.is("nextOf(0, 2)", x.nextOf(0, 2), 2);
    Check.is("nextOf(0, 3)", x.nextOf(0, 3), 9);
    Check.is("nextOf(0, -5)", x.nextOf(0, -5), -5);
    Check.is("nextOf(0, -4)", x.nextOf(0, -4), 2);
    Check.is("nextOf(1, 100000)", x.nextOf(1, 100000), 100000);
    Check.is("nextOf(1, 99999)", x.nextOf(1, 99999), 100000);
    Check.is("nextOf(1, -99999)", x.nextOf(1, -99999), -95000);
    Check.is("aheadOf(0, 2)", x.aheadOf(0, 2), -5);
    Check.is("aheadOf(0, 3)", x.aheadOf(0, 3), 2);
    Check.is("aheadOf(1, -100000)", x.aheadOf(1, -100000), -105000);
    Check.is("many(0, 2, 2)", x.many(0, 2, 2), 1);
    Check.is("many(0, 3, 8)", x.many(0, 3, 8), 0);
    Check.is("many(0, -5, 9)", x.many(0, -5, 9), 3);
    Check.is("many(0, 9, -5)", x.many(0, 9, -5), 0);
    Check.is("many(0, 3, 2)", x.many(0, 3, 2), 0);
    Check.is("many(1, -100000, 100000)", x.many(1, -100000, 100000), 41);
    for (int t : FAR) {
      Check.no("nextOf", x, BAD, () -> x.nextOf(0, t));
      Check.no("aheadOf", x, BAD, () -> x.aheadOf(0, t));
      Check.no("many from", x, BAD, () -> x.many(0, t, 0));
      Check.no("many to", x, BAD, () -> x.many(0, 0, t));
      Check.no("nextOf: the BODY first", x, GONE, () -> x.nextOf(2, t));
      Check.no("aheadOf: the BODY first", x, GONE, () -> x.aheadOf(-1, t));
      Check.no("many: the BODY first", x, GONE, () -> x.many(2, t, t));
    }
    for (int body : new int[] {-1, 2, Integer.MIN_VALUE, Integer.MAX_VALUE}) {
      Check.no("nextOf", x, GONE, () -> x.nextOf(body, 0));
      Check.no("aheadOf", x, GONE, () -> x.aheadOf(body, 0));
      Check.no("many", x, GONE, () -> x.many(body, 0, 0));
    }
  }

  private static void sets() {
    Moonwheels x = new Moonwheels();
    Check.no("no BODIES", x, BAD, () -> x.meet(1, 0));
    x.body(6, 1, 0);
    x.body(4, 3, 0);
    x.body(9, 4, 0);
    x.body(8, 1, 0);
    for (int set : new int[] {0, -1, 16, 17, 31, Integer.MIN_VALUE, Integer.MAX_VALUE}) {
      Check.no("meet", x, BAD, () -> x.meet(set, 0));
      Check.no("again", x, BAD, () -> x.again(set));
      Check.no("window", x, BAD, () -> x.window(set, 0));
    }
    for (int t : FAR) {
      Check.no("meet from", x, BAD, () -> x.meet(1, t));
      Check.no("window from", x, BAD, () -> x.window(1, t));
    }
    Check.is("meet(3, 7)", x.meet(3, 7), "7");
    Check.is("meet(3, 8)", x.meet(3, 8), "19");
    Check.is("meet(7, 0)", x.meet(7, 0), "31");
    Check.is("meet(7, -100000)", x.meet(7, -100000), "-99977");
    Check.is("meet(7, 100000)", x.meet(7, 100000), "100003");
    Check.is("meet(8, -3)", x.meet(8, -3), "1");
    Check.is("meet(15, 0)", x.meet(15, 0), "never 1 3");
    Check.is("meet(10, 0)", x.meet(10, 0), "never 1 3");
    x.retell(2, 9, 0);
    Check.is("the smallest first number", x.meet(15, 0), "never 0 2");
    x.retell(1, 4, 0);
    Check.is("the smallest second number", x.meet(15, 0), "never 0 1");
    Check.is("again(15)", x.again(15), "72");
    Check.is("again(1)", x.again(1), "6");
    Check.is("again(3)", x.again(3), "12");
    Check.is("again(12)", x.again(12), "72");
    Check.is("isSound with some that never meet", x.isSound(), true);
  }

  /** By the words, for three BODIES with small ROUNDS: by looking at each moment, without any theorem. */
  private static void scannedMeetings() {
    for (int code = 0; code < 6 * 8 * 9; code++) {
      int[] rounds = {1 + code % 6, 3 + code / 6 % 8, 4 + code / 48};
      Moonwheels x = new Moonwheels();
      for (int i = 0; i < 3; i++) {
        x.body(rounds[i], 0, 0);
      }
      for (int turn = 0; turn < 12; turn++) {
        int[] begins = {turn * 7 % 5 - 2, turn * 5 % 11 - 4, turn * 11 % 13 - 6};
        for (int i = 0; i < 3; i++) {
          x.retell(i, rounds[i], begins[i]);
        }
        int from = turn * 37 - 200;
        for (int set : new int[] {3, 5, 6, 7}) {
          String told = java.util.Arrays.toString(rounds) + java.util.Arrays.toString(begins);
          Check.is("meet(" + set + ", " + from + ") of " + told, x.meet(set, from), scanned(rounds, begins, set, from));
        }
      }
    }
  }

  private static String scanned(int[] rounds, int[] begins, int set, int from) {
    int end = from + rounds[0] * rounds[1] * rounds[2];
    for (int t = from; t < end; t++) {
      boolean all = true;
      for (int i = 0; i < 3; i++) {
        all &= (set >> i & 1) == 0 || Math.floorMod(t - begins[i], rounds[i]) == 0;
      }
      if (all) {
        return "" + t;
      }
    }
    for (int i = 0; i < 3; i++) {
      for (int j = i + 1; j < 3; j++) {
        int two = 1 << i | 1 << j;
        if ((set & two) == two && (two == set || scanned(rounds, begins, two, from).startsWith("never"))) {
          return "never " + i + " " + j;
        }
      }
    }
    return "never, but by no two";
  }

  private static void longRounds() {
    Moonwheels x = new Moonwheels();
    int[] rounds = {5000, 4999, 4993, 4987, 4973, 4997};
    BigInteger all = BigInteger.ONE;
    for (int i = 0; i < 6; i++) {
      x.body(rounds[i], 1700 * i - 3000, 0);
      all = all.multiply(BigInteger.valueOf(rounds[i])).divide(all.gcd(BigInteger.valueOf(rounds[i])));
    }
    Check.is("beyond the long ones", all.bitLength() > 64, true);
    Check.is("again(63)", x.again(63), all.toString());
    BigInteger at = new BigInteger(x.meet(63, -100000));
    Check.is("not above the round", at.compareTo(all.subtract(BigInteger.valueOf(100000))) < 0, true);
    for (int i = 0; i < 6; i++) {
      BigInteger left = at.subtract(BigInteger.valueOf(1700 * i - 3000)).mod(BigInteger.valueOf(rounds[i]));
      Check.is("all MEET, also " + i, left.signum(), 0);
    }
    // All meet at 0, so the next time is just the round.
    for (int i = 0; i < 6; i++) {
      x.retell(i, rounds[i], 0);
    }
    Check.is("meet(63, 0)", x.meet(63, 0), "0");
    Check.is("meet(63, 1)", x.meet(63, 1), all.toString());
    Check.is("meet(63, -1)", x.meet(63, -1), "0");
    Check.is("isSound", x.isSound(), true);
    // 2 * 5 * 7 * 11 * 13 * .. are digits with zeros in between.
    int[] tens = {5000, 2500, 4000, 3125, 1250, 1};
    for (int i = 0; i < 6; i++) {
      x.retell(i, tens[i], 0);
    }
    Check.is("again with zeros", x.again(63), "100000");
    Check.is("meet with zeros", x.meet(63, 1), "100000");
  }

  private static void windows() {
    Moonwheels x = new Moonwheels();
    x.body(5000, 3000, 0);
    Check.is("window(1, 0): the last moment", x.window(1, 0), "3000");
    Check.is("window(1, -1): one farther", x.window(1, -1), "-");
    Check.is("window(1, 3000)", x.window(1, 3000), "3000");
    Check.is("window(1, 3001)", x.window(1, 3001), "-");
    Check.is("window(1, 100000)", x.window(1, 100000), "103000");
    x.body(10, 0, 3);
    x.body(7, 0, 6);
    Check.is("window(2, 3)", x.window(2, 3), "3");
    Check.is("window(2, 4)", x.window(2, 4), "10");
    Check.is("window(2, -6)", x.window(2, -6), "0");
    Check.is("window(6, -9)", x.window(6, -9), "-9");
    Check.is("window(7, 0)", x.window(7, 0), "3000");
  }

  private static void events() {
    Moonwheels x = new Moonwheels();
    Check.is("without BODIES", x.event(0, 30), "-");
    for (int t : FAR) {
      Check.no("event from", x, BAD, () -> x.event(t, 0));
    }
    for (int k : new int[] {-1, 31, Integer.MIN_VALUE, Integer.MAX_VALUE}) {
      Check.no("event k", x, BAD, () -> x.event(0, k));
    }
    x.body(3, 0, 0);
    x.body(2, 0, 0);
    x.body(6, 1, 0);
    String[] due = {"0:0", "0:1", "1:2", "2:1", "3:0", "4:1", "6:0", "6:1", "7:2"};
    for (int k = 0; k < due.length; k++) {
      Check.is("event(0, " + k + ")", x.event(0, k), due[k]);
    }
    Check.is("event(1, 0)", x.event(1, 0), "1:2");
    Check.is("event(-1, 0)", x.event(-1, 0), "0:0");
    Check.is("event(0, 30)", x.event(0, 30), "30:0");
    Check.is("event(100000, 0)", x.event(100000, 0), "100000:1");
    Check.is("event(-100000, 1)", x.event(-100000, 1), "-99999:0");
    x.undo();
    x.undo();
    x.undo();
    x.body(5000, 1, 0);
    Check.is("far ones", x.event(100000, 30), "250001:0");
  }
}
