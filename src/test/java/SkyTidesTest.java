/** Promises 36 to 49: sky, tides and rising. */
public final class SkyTidesTest {
  private static final Class<IllegalArgumentException> BAD = IllegalArgumentException.class;
  private static final Class<IllegalStateException> STATE = IllegalStateException.class;
  private static final Class<IndexOutOfBoundsException> GONE = IndexOutOfBoundsException.class;
  private static final int[] FAR = {-100001, 100001, Integer.MIN_VALUE, Integer.MAX_VALUE};

  public static void main(String[] args) {
    tellingSky();
    eclipsesComing();
    tellingSwings();
    heights();
    turns();
    risingDays();
    Check.end("SkyTidesTest");
  }

  private static void tellingSky() {
    Moonwheels x = new Moonwheels();
    int[][] bad = {{0, 5, 0, 0}, {1001, 1100, 0, 0}, {5, 5, 0, 0}, {5, 4, 0, 0}, {5, 1800, 0, 0}, {5, 6, -1001, 0},
        {5, 6, 1001, 0}, {5, 6, 0, -1}, {5, 6, 0, 901}, {Integer.MIN_VALUE, 6, 0, 0}, {Integer.MAX_VALUE, 6, 0, 0},
        {5, Integer.MIN_VALUE, 0, 0}, {5, Integer.MAX_VALUE, 0, 0}, {5, 6, Integer.MIN_VALUE, 0},
        {5, 6, 0, Integer.MAX_VALUE}};
    for (int[] s : bad) {
      Check.no("sky", x, BAD, () -> x.sky(s[0], s[1], s[2], s[3]));
    }
    Check.is("house(5)", x.house(5), 0);
    for (int t : FAR) {
      Check.no("eclipse: IllegalArgumentException first", x, BAD, () -> x.eclipse(t));
      Check.no("eclipses: likewise", x, BAD, () -> x.eclipses(t, 0));
    }
    Check.no("skySlip: likewise", x, BAD, () -> x.skySlip(-1));
    Check.no("eclipse without SKY", x, STATE, () -> x.eclipse(0));
    Check.no("eclipses without SKY", x, STATE, () -> x.eclipses(0, 0));
    Check.no("skySlip without SKY", x, STATE, () -> x.skySlip(0));
    Check.is("sky(1, 1799, 1, 0)", x.sky(1, 1799, 1, 0), 1800);
    Check.is("sky(1000, 1001, -1000, 900)", x.sky(1000, 1001, -1000, 900), 3600);
    Check.is("sky(5, 905, 5, 3)", x.sky(5, 905, 5, 3), 4);
    Check.is("sky(5, 905, 1000, 3)", x.sky(5, 905, 1000, 3), 360);
    Check.is("house(5)", x.house(5), 4);
    Check.is("undo", x.undo(), 3);
    Check.is("skySlip(3) of the one before", x.skySlip(3), "2700 0");
    x.undo();
    x.undo();
    Check.is("skySlip(3) of the first one", x.skySlip(3), "1794 0");
    Check.is("undo", x.undo(), 0);
    Check.no("no SKY again", x, STATE, () -> x.skySlip(0));
    Check.is("told as it was is a CHANGE", x.sky(1, 2, 3, 4) + x.sky(1, 2, 3, 4) + x.house(5), 7202);
  }

  private static void eclipsesComing() {
    Moonwheels x = new Moonwheels();
    // The moon passes each 4th day; the knot is 100 a day nearer.
    x.sky(100, 1000, 0, 200);
    for (int t : FAR) {
      Check.no("eclipse", x, BAD, () -> x.eclipse(t));
      Check.no("eclipses", x, BAD, () -> x.eclipses(t, 1));
    }
    for (int many : new int[] {-1, 5001, Integer.MIN_VALUE, Integer.MAX_VALUE}) {
      Check.no("eclipses many", x, BAD, () -> x.eclipses(0, many));
    }
    for (int days : new int[] {-1, 100001, Integer.MIN_VALUE, Integer.MAX_VALUE}) {
      Check.no("skySlip", x, BAD, () -> x.skySlip(days));
    }
    // e on the days 0 4 8 ..: 0 400 800 1200 1600 200 600 1000 1400 0; 1600 is 200 ahead
    Check.is("eclipse(0)", x.eclipse(0), "0");
    Check.is("eclipse(1)", x.eclipse(1), "16");
    Check.is("eclipse(16)", x.eclipse(16), "16");
    Check.is("eclipse(17)", x.eclipse(17), "20");
    Check.is("eclipse(21)", x.eclipse(21), "36");
    Check.is("eclipse(-20)", x.eclipse(-20), "-20");
    Check.is("eclipse(-15)", x.eclipse(-15), "0");
    Check.is("eclipse(100000)", x.eclipse(100000), "100008");
    Check.is("eclipses(0, 0)", x.eclipses(0, 0), 0);
    Check.is("eclipses(0, 1)", x.eclipses(0, 1), 1);
    Check.is("eclipses(0, 16)", x.eclipses(0, 16), 1);
    Check.is("eclipses(0, 17)", x.eclipses(0, 17), 2);
    Check.is("eclipses(-36, 5000)", x.eclipses(-36, 5000), 417);
    Check.is("eclipses(-100000, 36)", x.eclipses(-100000, 36), 3);
    x.sky(100, 1000, 0, 199);
    Check.is("a smaller window", x.eclipse(1), "36");
    x.sky(100, 1000, 0, 900);
    Check.is("all passings", x.eclipses(0, 5000), 1250);
    x.sky(1, 2, 1000, 0);
    Check.is("the farthest", x.eclipse(1), "3600");
    Check.is("skySlip(0)", x.skySlip(0), "0 0");
    Check.is("skySlip(1): below 0", x.skySlip(1), "1 801");
    Check.is("skySlip(100000)", x.skySlip(100000), "2800 " + Math.floorMod(-999 * 100000, 1800));
  }

  private static void tellingSwings() {
    Moonwheels x = new Moonwheels();
    int[][] bad = {{1, 0}, {13, 0}, {2, -1001}, {2, 1001}, {Integer.MIN_VALUE, 0}, {Integer.MAX_VALUE, 0},
        {2, Integer.MIN_VALUE}, {2, Integer.MAX_VALUE}};
    for (int[] s : bad) {
      Check.no("swing", x, BAD, () -> x.swing(s[0], s[1]));
    }
    Check.no("no SWING", x, GONE, () -> x.share(0, 0, 100));
    Check.is("tideRound()", x.tideRound(), 1);
    Check.is("swing(2, -1000)", x.swing(2, -1000), 0);
    Check.is("swing(12, 1000)", x.swing(12, 1000), 1);
    Check.is("tideRound()", x.tideRound(), 12);
    Check.is("swing(9, 0)", x.swing(9, 0), 2);
    Check.is("tideRound()", x.tideRound(), 36);
    Check.no("a fourth", x, STATE, () -> x.swing(2, 0));
    Check.no("a bad fourth", x, BAD, () -> x.swing(1, 0));
    int[][] gone = {{-1, 0}, {3, 0}, {0, 2}, {0, -1}, {1, 12}, {2, 9}, {Integer.MAX_VALUE, 0}, {Integer.MIN_VALUE, 0},
        {0, Integer.MAX_VALUE}, {0, Integer.MIN_VALUE}};
    for (int[] s : gone) {
      Check.no("share", x, GONE, () -> x.share(s[0], s[1], 100));
    }
    for (int value : new int[] {-100, 100, Integer.MIN_VALUE, Integer.MAX_VALUE}) {
      Check.no("share value", x, BAD, () -> x.share(2, 8, value));
    }
    Check.is("house(5)", x.house(5), 3);
    Check.is("share(2, 8, 99)", x.share(2, 8, 99), 0);
    Check.is("share(2, 8, -99)", x.share(2, 8, -99), 99);
    Check.is("height(8)", x.height(8), -99);
    Check.is("undo", x.undo(), 4);
    Check.is("height(8)", x.height(8), 99);
    Check.is("undo", x.undo(), 3);
    Check.is("height(8)", x.height(8), 0);
    Check.is("share(2, 8, 5)", x.share(2, 8, 5), 0);
    x.undo();
    x.undo();
    Check.is("house(3)", x.house(3), 2);
    Check.no("2 is gone", x, GONE, () -> x.share(2, 0, 0));
    Check.is("swing(9, 0)", x.swing(9, 0), 2);
    Check.is("its shares are 0", x.height(8), 0);
    freshShares();
    rounds();
  }

  /** A SWING that comes behind one that was forgotten, with shares, has none. */
  private static void freshShares() {
    Moonwheels x = new Moonwheels();
    x.swing(3, 0);
    x.share(0, 1, 7);
    x.undo();
    x.undo();
    x.swing(3, 0);
    Check.is("height(1)", x.height(1), 0);
    Check.is("share(0, 1, 2)", x.share(0, 1, 2), 0);
    Check.is("told as it was", x.share(0, 1, 2), 2);
    Check.is("house(5)", x.house(5), 3);
  }

  private static void rounds() {
    Moonwheels x = new Moonwheels();
    x.swing(11, 0);
    x.swing(10, 0);
    x.swing(9, 0);
    Check.is("tideRound()", x.tideRound(), 990);
    Check.is("isSound", x.isSound(), true);
  }

  private static void heights() {
    Moonwheels x = new Moonwheels();
    for (int t : FAR) {
      Check.no("height", x, BAD, () -> x.height(t));
    }
    for (int delay : new int[] {-501, 501, Integer.MIN_VALUE, Integer.MAX_VALUE}) {
      Check.no("port", x, BAD, () -> x.port(delay));
    }
    x.swing(4, 3);
    x.swing(3, -1);
    int[] four = {1, 20, 3, 40};
    int[] three = {-5, 60, 7};
    for (int k = 0; k < 4; k++) {
      x.share(0, k, four[k]);
    }
    for (int k = 0; k < 3; k++) {
      x.share(1, k, three[k]);
    }
    int delay = 0;
    for (int next : new int[] {0, 5, -500, 500, 0}) {
      Check.is("port(" + next + ")", x.port(next), delay);
      delay = next;
      for (int t = -14; t <= 14; t++) {
        int due = four[Math.floorMod(t - delay - 3, 4)] + three[Math.floorMod(t - delay + 1, 3)];
        Check.is("height(" + t + ")", x.height(t), due);
      }
    }
    x.undo();
    Check.is("port of before", x.port(3), 500);
    Check.is("house(5)", x.house(5), 10);
    Check.is("height(-100000)", x.height(-100000), four[Math.floorMod(-100006, 4)] + three[Math.floorMod(-100002, 3)]);
  }

  private static void turns() {
    Moonwheels x = new Moonwheels();
    for (int t : FAR) {
      Check.no("tide", x, BAD, () -> x.tide(t, true));
      Check.no("table", x, BAD, () -> x.table(t, 1));
    }
    for (int many : new int[] {0, -1, 10, Integer.MIN_VALUE, Integer.MAX_VALUE}) {
      Check.no("table many", x, BAD, () -> x.table(0, many));
    }
    Check.is("without SWINGS", x.tide(0, false) + x.tide(0, true) + x.table(0, 9), "--");
    x.swing(6, 0);
    Check.is("all the same", x.tide(0, false) + x.tide(0, true) + x.table(0, 9), "--");
    // 0 5 5 2 0 0: neither the 5 5 nor the 0 0 0 is a turn
    x.share(0, 1, 5);
    x.share(0, 2, 5);
    x.share(0, 3, 2);
    Check.is("plateaus", x.tide(0, false) + x.tide(0, true) + x.table(0, 9), "--");
    // 0 5 5 2 3 0
    x.share(0, 4, 3);
    Check.is("tide(0, true)", x.tide(0, true), "3");
    Check.is("tide(3, true)", x.tide(3, true), "3");
    Check.is("tide(0, false)", x.tide(0, false), "4");
    Check.is("tide(1, true)", x.tide(1, true), "3");
    Check.is("tide(4, false)", x.tide(4, false), "4");
    Check.is("tide(5, false)", x.tide(5, false), "10");
    Check.is("tide(4, true)", x.tide(4, true), "9");
    Check.is("table(0, 4)", x.table(0, 4), "3v2 4^3 9v2 10^3");
    Check.is("table(4, 1)", x.table(4, 1), "4^3");
    Check.is("table(-100000, 2)", x.table(-100000, 2), "-99999v2 -99998^3");
    Check.is("table(100000, 9)", x.table(100000, 9), "100000^3 100005v2 100006^3 100011v2 100012^3 100017v2 "
        + "100018^3 100023v2 100024^3");
    // 0 -5 .. : only a LOW in the round
    x.share(0, 1, -5);
    x.share(0, 2, 0);
    x.share(0, 3, 0);
    x.share(0, 4, 0);
    Check.is("no HIGH", x.tide(0, false), "-");
    Check.is("a LOW below 0", x.table(0, 9),
        "1v-5 7v-5 13v-5 19v-5 25v-5 31v-5 37v-5 43v-5 49v-5");
  }

  private static void risingDays() {
    Moonwheels x = new Moonwheels();
    for (int t : FAR) {
      Check.no("rising", x, BAD, () -> x.rising(t));
    }
    for (int k : new int[] {-1, 12, Integer.MIN_VALUE, Integer.MAX_VALUE}) {
      Check.no("rise k", x, GONE, () -> x.rise(k, 10000));
    }
    for (int value : new int[] {-10000, 10000, Integer.MIN_VALUE, Integer.MAX_VALUE}) {
      Check.no("rise value", x, BAD, () -> x.rise(0, value));
    }
    for (int days : new int[] {0, 61, -1, Integer.MIN_VALUE, Integer.MAX_VALUE}) {
      Check.no("pieces", x, BAD, () -> x.pieces(days));
    }
    Check.is("rise(0, 9999)", x.rise(0, 9999), 0);
    Check.is("rise(1, -9999)", x.rise(1, -9999), 0);
    Check.is("rise(11, 100)", x.rise(11, 100), 0);
    Check.is("rise(11, 101)", x.rise(11, 101), 100);
    Check.is("rising(0)", x.rising(0), 9999);
    Check.is("rising(1)", x.rising(1), 9999 - 667);
    Check.is("rising(29)", x.rising(29), -9333);
    Check.is("rising(30)", x.rising(30), -9999);
    Check.is("rising(31)", x.rising(31), -9999 + 333);
    Check.is("rising(-1)", x.rising(-1), 101 + 9898 * 29 / 30);
    Check.is("rising(-30)", x.rising(-30), 101);
    Check.is("rising(360)", x.rising(360), 9999);
    Check.is("pieces(60)", x.pieces(60), 30);
    Check.is("rising(30)", x.rising(30), 0);
    Check.is("pieces(1)", x.pieces(1), 60);
    Check.is("rising(1)", x.rising(1), -9999);
    Check.is("rising(12)", x.rising(12), 9999);
    Check.is("rising(-100000)", x.rising(-100000), 0);
    Check.is("undo", x.undo(), 5);
    Check.is("undo", x.undo(), 4);
    Check.is("rising(30) again", x.rising(30), -9999);
    Check.is("undo", x.undo(), 3);
    Check.is("rise(11, 5)", x.rise(11, 5), 100);
  }
}
