import java.util.List;
import java.util.function.Supplier;

/** Each sentence of promises 36 to 49 that names an edge. */
public final class SkyTideEdgesTest {
  private static final Class<IllegalArgumentException> BAD = IllegalArgumentException.class;
  private static final Class<IllegalStateException> STATE = IllegalStateException.class;
  private static final Class<IndexOutOfBoundsException> GONE = IndexOutOfBoundsException.class;
  private static final Supplier<Moonwheels> EMPTY = Houses::empty;
  private static final Supplier<Moonwheels> ALMOST = Houses::almost;
  private static final Supplier<Moonwheels> FULL = Houses::full;

  public static void main(String[] args) {
    skyArguments();
    skyRounds();
    noSky();
    skyRanges();
    eclipseDays();
    eclipseWindows();
    eclipseCounts();
    slips();
    swingArguments();
    swingsUntilFull();
    shareArguments();
    shares();
    ports();
    heights();
    tides();
    tables();
    tideRounds();
    risingArguments();
    risings();
    Check.end("SkyTideEdgesTest");
  }

  private static Moonwheels sky(int sun, int moon, int knot, int window) {
    Moonwheels x = new Moonwheels();
    x.sky(sun, moon, knot, window);
    return x;
  }

  /** One SWING from 0 on, with these shares. */
  private static Moonwheels swing(int... shares) {
    Moonwheels x = new Moonwheels();
    x.swing(shares.length, 0);
    for (int k = 0; k < shares.length; k++) {
      x.share(0, k, shares[k]);
    }
    return x;
  }

  private static void moments(String call, Supplier<Moonwheels> house, Check.Call run) {
    Check.range(call, BAD, -100000, 100000, house, run);
  }

  // Promise 36: "sun is not 1 to 1000, moon not sun + 1 to 1799, knot not -1000 to 1000, or window not 0 to 900"
  private static void skyArguments() {
    for (Supplier<Moonwheels> house : List.of(EMPTY, FULL)) {
      Check.range("sky sun", BAD, 1, 1000, house, (x, v) -> x.sky(v, 1500, 0, 9));
      Check.range("sky moon of sun 1", BAD, 2, 1799, house, (x, v) -> x.sky(1, v, 0, 9));
      Check.range("sky moon of sun 1000", BAD, 1001, 1799, house, (x, v) -> x.sky(1000, v, 0, 9));
      Check.range("sky knot", BAD, -1000, 1000, house, (x, v) -> x.sky(10, 132, v, 9));
      Check.range("sky window", BAD, 0, 900, house, (x, v) -> x.sky(10, 132, 0, v));
      skyRefused(house, 5, 5);
      skyRefused(house, 5, 4);
      skyRefused(house, 0, 1);
      skyRefused(house, -5, 5);
      skyRefused(house, 1001, 1002);
      skyRefused(house, Integer.MAX_VALUE, Integer.MIN_VALUE);
    }
    Check.refused("all is wrong", BAD, EMPTY, x -> x.sky(0, 0, 1001, 901));
  }

  private static void skyRefused(Supplier<Moonwheels> house, int sun, int moon) {
    Check.refused("sky of " + sun + ", " + moon, BAD, house, x -> x.sky(sun, moon, 0, 9));
  }

  // "the least T above 0 so that (moon - sun) * T is a multiple of 3600 and (sun - knot) * T one of 1800"
  private static void skyRounds() {
    Check.is("the least round, the knot goes as the sun", new Moonwheels().sky(5, 1205, 5, 0), 3);
    Check.is("the knot goes 1800 less", new Moonwheels().sky(1000, 1720, -800, 0), 5);
    Check.is("the greatest round, by the moon", new Moonwheels().sky(1, 2, 1, 0), 3600);
    Check.is("by the knot alone", new Moonwheels().sky(5, 1205, 4, 0), 1800);
    Check.is("by the knot, that is faster than the sun", new Moonwheels().sky(5, 1205, 6, 0), 1800);
    Check.is("by both", new Moonwheels().sky(9, 909, -191, 0), 36);
    Check.is("the least sun and the greatest moon", new Moonwheels().sky(1, 1799, 1, 900), 1800);
    Check.is("the greatest sun and the least knot", new Moonwheels().sky(1000, 1001, -1000, 900), 3600);
    Check.is("the greatest sun and the greatest knot", new Moonwheels().sky(1000, 1799, 1000, 0), 3600);
  }

  // Promises 37 to 39: "no SKY is told", behind the arguments
  private static void noSky() {
    for (Supplier<Moonwheels> house : List.of(EMPTY, SkyTideEdgesTest::takenBack)) {
      for (int from : new int[] {-100000, 0, 100000}) {
        stateless("eclipse " + from, house, (x, v) -> x.eclipse(from));
        stateless("eclipses " + from, house, (x, v) -> x.eclipses(from, 0));
      }
      stateless("eclipses 5000", house, (x, v) -> x.eclipses(0, 5000));
      stateless("skySlip 0", house, (x, v) -> x.skySlip(0));
      stateless("skySlip 100000", house, (x, v) -> x.skySlip(100000));
      for (int far : new int[] {-100001, 100001, Integer.MIN_VALUE, Integer.MAX_VALUE}) {
        Check.refused("from of eclipse first", BAD, house, x -> x.eclipse(far));
        Check.refused("from of eclipses first", BAD, house, x -> x.eclipses(far, 0));
        Check.refused("days of skySlip first", BAD, house, x -> x.skySlip(far));
      }
      for (int many : new int[] {-1, 5001, Integer.MIN_VALUE, Integer.MAX_VALUE}) {
        Check.refused("many of eclipses first", BAD, house, x -> x.eclipses(0, many));
      }
      Check.refused("days of skySlip first", BAD, house, x -> x.skySlip(-1));
    }
  }

  private static void stateless(String call, Supplier<Moonwheels> house, Check.Call run) {
    Check.refused(call + " without SKY", STATE, house, x -> run.on(x, 0));
  }

  private static Moonwheels takenBack() {
    Moonwheels x = sky(10, 132, -2, 60);
    x.undo();
    return x;
  }

  // "from is not -100000 to 100000", "many not 0 to 5000", "days is not 0 to 100000"
  private static void skyRanges() {
    for (Supplier<Moonwheels> house : List.of(ALMOST, FULL)) {
      moments("eclipse from", house, (x, v) -> x.eclipse(v));
      moments("eclipses from", house, (x, v) -> x.eclipses(v, 9));
      Check.range("eclipses many", BAD, 0, 5000, house, (x, v) -> x.eclipses(0, v));
      Check.range("skySlip days", BAD, 0, 100000, house, (x, v) -> x.skySlip(v));
      Check.refused("eclipses, both", BAD, house, x -> x.eclipses(100001, 5001));
    }
  }

  // Promise 37: "the first day from that one on"; the day 0 always has one, so that "-" never comes
  private static void eclipseDays() {
    Moonwheels x = sky(5, 1205, 5, 0);
    Check.is("from itself", x.eclipse(0), "0");
    Check.is("one behind it", x.eclipse(1), "3");
    Check.is("one ahead of it", x.eclipse(-1), "0");
    Check.is("below 0, itself", x.eclipse(-3), "-3");
    Check.is("below 0", x.eclipse(-4), "-3");
    Check.is("the greatest from", x.eclipse(100000), "100002");
    Check.is("the greatest from, itself", sky(5, 905, 5, 0).eclipse(100000), "100000");
    Check.is("the least from", x.eclipse(-100000), "-99999");
    Check.is("the least from, itself", sky(5, 905, 5, 0).eclipse(-100000), "-100000");
    Check.is("a whole round farther", sky(1, 2, 1000, 0).eclipse(1), "3600");
    Check.is("the last day of the round ahead", sky(1, 2, 1000, 0).eclipse(-3599), "0");
    Check.is("a whole round below 0", sky(1, 2, 1000, 0).eclipse(-3600), "-3600");
  }

  // "passes the sun, if .. is below moon - sun"; "e or 1800 - e is not above the window"
  private static void eclipseWindows() {
    // 7 * 1 is not below 7; 7 * 514 is 3598, 7 * 515 is 5
    Check.is("as much as moon - sun is no passing", sky(1, 8, 0, 900).eclipse(1), "515");
    Check.is("one less is", sky(1, 8, 0, 900).eclipse(516), "1029");
    // e on the days 0 4 8 ..: 0 400 800 1200 1600 200 600 1000 1400 0
    Check.is("1800 - e is the window", sky(100, 1000, 0, 200).eclipse(1), "16");
    Check.is("1800 - e is above the window by one", sky(100, 1000, 0, 199).eclipse(1), "36");
    Check.is("e is the window", sky(100, 1000, 0, 200).eclipse(17), "20");
    Check.is("e is the window", sky(100, 1000, 0, 400).eclipse(1), "4");
    Check.is("e is above the window by one", sky(100, 1000, 0, 399).eclipse(1), "16");
    Check.is("window 0: e is 0", sky(100, 1000, 0, 0).eclipse(1), "36");
    Check.is("e is 900 and so is 1800 - e", sky(225, 1125, 0, 900).eclipse(1), "4");
    Check.is("window 899", sky(225, 1125, 0, 899).eclipse(1), "8");
    Check.is("window 900: each passing", sky(100, 1000, 0, 900).eclipses(0, 5000), 1250);
    Check.is("below 0 mod is 0 to 1799", sky(100, 1000, 0, 200).eclipse(-16), "-16");
    Check.is("below 0", sky(100, 1000, 0, 199).eclipse(-35), "0");
    Check.is("the knot is faster than the sun", sky(100, 1000, 200, 200).eclipse(1), "16");
  }

  // Promise 38: "from that day on in so many days"
  private static void eclipseCounts() {
    Moonwheels x = sky(5, 1205, 5, 0);
    Check.is("in no days", x.eclipses(0, 0), 0);
    Check.is("that day is with it", x.eclipses(0, 1), 1);
    Check.is("the last day is with it", x.eclipses(1, 3), 1);
    Check.is("the day behind is not", x.eclipses(1, 2), 0);
    Check.is("over 0", x.eclipses(-3, 4), 2);
    Check.is("the most", x.eclipses(0, 5000), 1667);
    Check.is("the most from the greatest", x.eclipses(100000, 5000), 1666);
    Check.is("the most from the least", x.eclipses(-100000, 5000), 1667);
    Check.is("none from the greatest", x.eclipses(100000, 0), 0);
    Check.is("none from the least", x.eclipses(-100000, 0), 0);
  }

  // Promise 39: both by mod, also below 0
  private static void slips() {
    Check.is("no days", sky(10, 132, -2, 60).skySlip(0), "0 0");
    Check.is("one day", sky(10, 132, -2, 60).skySlip(1), "122 12");
    Check.is("sun - knot below 0", sky(1, 2, 1000, 0).skySlip(1), "1 801");
    Check.is("the moon comes around just", sky(5, 905, 5, 0).skySlip(4), "0 0");
    Check.is("one ahead of it", sky(5, 905, 5, 0).skySlip(3), "2700 0");
    Check.is("the knot comes around just", sky(900, 1000, 0, 0).skySlip(2), "200 0");
    Check.is("the most days", sky(1, 2, 0, 0).skySlip(100000), "2800 1000");
    Check.is("the most days, below 0", sky(1, 1799, 1000, 0).skySlip(100000), "1600 0");
    Check.is("the most days and steps", sky(1000, 1799, -1000, 0).skySlip(100000), "1600 200");
  }

  // Promise 40: "round is not 2 to 12, or begin not -1000 to 1000"
  private static void swingArguments() {
    for (Supplier<Moonwheels> house : List.of(EMPTY, ALMOST)) {
      Check.range("swing round", BAD, 2, 12, house, (x, v) -> x.swing(v, 0));
      Check.range("swing begin", BAD, -1000, 1000, house, (x, v) -> x.swing(5, v));
      Check.refused("swing, both", BAD, house, x -> x.swing(1, 1001));
    }
  }

  // "at most 3"; "there are 3"; "(0 at first)"
  private static void swingsUntilFull() {
    Moonwheels x = new Moonwheels();
    Check.is("numbers start with 0", x.swing(2, -1000), 0);
    Check.is("the second", x.swing(12, 1000), 1);
    Check.is("the third", x.swing(7, 0), 2);
    Check.is("a fourth", Check.thrown(() -> x.swing(5, 0)), STATE.getName());
    Check.is("house(3)", x.house(3), 3);
    for (int t = 0; t < 12; t++) {
      Check.is("shares are 0 at first", x.height(t), 0);
    }
    Check.is("undo", x.undo(), 2);
    Check.is("the third is gone", Check.thrown(() -> x.share(2, 0, 0)), GONE.getName());
    Check.is("the second is there", x.share(1, 11, 0), 0);
    Check.is("a third anew", x.swing(5, 0), 2);
    Check.is("it has its own round", Check.thrown(() -> x.share(2, 5, 0)), GONE.getName());
    for (int[] s : new int[][] {{2, -1000}, {12, 1000}, {5, 0}}) {
      Check.refused("a fourth", STATE, FULL, y -> y.swing(s[0], s[1]));
    }
    for (int[] s : new int[][] {{1, 0}, {13, 0}, {5, -1001}, {5, 1001}}) {
      Check.refused("the arguments first", BAD, FULL, y -> y.swing(s[0], s[1]));
    }
  }

  // Promise 41: "there is no such SWING or share" ahead of "value is not -99 to 99"
  private static void shareArguments() {
    Check.refused("no SWINGS", GONE, EMPTY, x -> x.share(0, 0, 0));
    Check.refused("no SWINGS, nor such a value", GONE, EMPTY, x -> x.share(0, 0, 100));
    Check.range("share swing of 2", GONE, 0, 1, ALMOST, (x, v) -> x.share(v, 0, 5));
    Check.range("share swing of 3", GONE, 0, 2, FULL, (x, v) -> x.share(v, 0, 5));
    Check.range("share k of round 4", GONE, 0, 3, FULL, (x, v) -> x.share(0, v, 5));
    Check.range("share k of round 3", GONE, 0, 2, FULL, (x, v) -> x.share(1, v, 5));
    Check.range("share k of round 5", GONE, 0, 4, FULL, (x, v) -> x.share(2, v, 5));
    Check.range("share k of round 2", GONE, 0, 1, () -> swing(1, 2), (x, v) -> x.share(0, v, 5));
    Check.range("share k of round 12", GONE, 0, 11, () -> swing(new int[12]), (x, v) -> x.share(0, v, 5));
    Check.range("share value", BAD, -99, 99, FULL, (x, v) -> x.share(0, 0, v));
    for (int value : new int[] {-100, 100}) {
      Check.refused("the SWING first", GONE, FULL, x -> x.share(3, 0, value));
      Check.refused("the SWING first", GONE, FULL, x -> x.share(-1, 0, value));
      Check.refused("the share first", GONE, FULL, x -> x.share(0, 4, value));
      Check.refused("the share first", GONE, FULL, x -> x.share(0, -1, value));
    }
  }

  // "Returns the one before."
  private static void shares() {
    Moonwheels x = new Moonwheels();
    x.swing(12, 0);
    for (int k = 0; k < 12; k++) {
      Check.is("0 at first", x.share(0, k, -99), 0);
      Check.is("the least", x.height(k), -99);
      Check.is("the one before", x.share(0, k, 99), -99);
      Check.is("the greatest", x.height(k), 99);
      Check.is("told as it was", x.share(0, k, 99), 99);
    }
    Check.is("a round later", x.height(12), 99);
    Moonwheels three = Houses.full();
    for (int i = 0; i < 3; i++) {
      for (int k = 0; k < 3 + (i == 0 ? 1 : i == 2 ? 2 : 0); k++) {
        three.share(i, k, 99);
      }
    }
    Check.is("the greatest HEIGHT", three.height(-100000), 297);
  }

  // Promise 42: "delay is not -500 to 500"; "Returns the one before."; "(0 at first)"
  private static void ports() {
    for (Supplier<Moonwheels> house : List.of(EMPTY, FULL)) {
      Check.range("port delay", BAD, -500, 500, house, (x, v) -> x.port(v));
    }
    Moonwheels x = swing(1, 2, 3, 4, 5, 6, 7);
    Check.is("0 at first", x.port(500), 0);
    Check.is("the greatest", x.height(0), 1 + Math.floorMod(-500, 7));
    Check.is("the one before", x.port(-500), 500);
    Check.is("the least", x.height(0), 1 + Math.floorMod(500, 7));
    Check.is("told as it was", x.port(-500), -500);
    Check.is("the one before", x.port(1), -500);
    Check.is("a delay of one moment", x.height(1), 1);
    Check.is("undo", x.undo(), 9);
    Check.is("the least again", x.height(0), 1 + Math.floorMod(500, 7));
  }

  // Promise 43: "t is not -100000 to 100000"; mod below 0
  private static void heights() {
    for (Supplier<Moonwheels> house : List.of(EMPTY, FULL)) {
      moments("height t", house, (x, v) -> x.height(v));
    }
    Check.is("without SWINGS", new Moonwheels().height(0), 0);
    Check.is("without SWINGS, the least", new Moonwheels().height(-100000), 0);
    Check.is("without SWINGS, the greatest", new Moonwheels().height(100000), 0);
    Moonwheels x = swing(1, 2, 3, 4, 5, 6, 7);
    for (int t : new int[] {-100000, -99999, -8, -7, -6, -1, 0, 1, 6, 7, 8, 99999, 100000}) {
      Check.is("height(" + t + ")", x.height(t), 1 + Math.floorMod(t, 7));
    }
    for (int begin : new int[] {-1000, -7, -1, 1, 7, 1000}) {
      Moonwheels y = new Moonwheels();
      y.swing(7, begin);
      y.share(0, 0, 9);
      y.share(0, 6, 8);
      Check.is("the share 0 at the beginning " + begin, y.height(begin), 9);
      Check.is("the last share ahead of it", y.height(begin - 1), 8);
      Check.is("the share 1 behind it", y.height(begin + 1), 0);
      y.port(3);
      Check.is("with the delay", y.height(begin + 3), 9);
    }
  }

  // Promise 44: "the first one not below from"; "'-' if there never is one"; greater than both, not as great
  private static void tides() {
    for (Supplier<Moonwheels> house : List.of(EMPTY, ALMOST, FULL)) {
      moments("tide from, LOW", house, (x, v) -> x.tide(v, true));
      moments("tide from, HIGH", house, (x, v) -> x.tide(v, false));
    }
    Moonwheels none = new Moonwheels();
    Check.is("without SWINGS, HIGH", none.tide(0, false), "-");
    Check.is("without SWINGS, LOW", none.tide(-100000, true), "-");
    Check.is("all shares alike, HIGH", swing(5, 5, 5).tide(0, false), "-");
    Check.is("all shares alike, LOW", swing(5, 5, 5).tide(100000, true), "-");
    Check.is("as great as the one behind is no HIGH", swing(0, 5, 5, 0).tide(0, false), "-");
    Check.is("as small as the one behind is no LOW", swing(5, 0, 0, 5).tide(0, true), "-");
    Check.is("a HIGH and no LOW", swing(0, 5, 0).tide(0, true), "-");
    Check.is("the HIGH of it", swing(0, 5, 0).tide(0, false), "1");
    Check.is("a LOW and no HIGH", swing(0, -5, 0).tide(0, false), "-");
    Check.is("the LOW of it", swing(0, -5, 0).tide(0, true), "1");
    Moonwheels x = swing(0, 1, 2, 1);
    Check.is("from itself", x.tide(2, false), "2");
    Check.is("one behind it", x.tide(3, false), "6");
    Check.is("one ahead of it", x.tide(1, false), "2");
    Check.is("below 0, itself", x.tide(-2, false), "-2");
    Check.is("below 0, one behind it", x.tide(-1, false), "2");
    Check.is("LOW itself", x.tide(0, true), "0");
    Check.is("LOW a round farther", x.tide(1, true), "4");
    Check.is("the greatest from", x.tide(100000, false), "100002");
    Check.is("the greatest from, itself", x.tide(100000, true), "100000");
    Check.is("the least from", x.tide(-100000, false), "-99998");
    Check.is("the least from, itself", x.tide(-100000, true), "-100000");
    Moonwheels two = swing(3, 4);
    Check.is("round 2: ahead and behind are the same", two.tide(0, false), "1");
    Check.is("round 2", two.tide(0, true), "0");
    Check.is("a whole round farther", swing(0, 5, 0).tide(2, false), "4");
    Check.is("far on in a long round", longRound().tide(13, false), "121");
    Check.is("and in the next one", longRound().tide(122, false), "144");
    Check.is("LOW where one moment is between both", longRound().tide(36, true), "98");
  }

  /** Two plateaus of two moments in a round of 132: a HIGH only where they lie upon each other by one. */
  private static Moonwheels longRound() {
    Moonwheels x = new Moonwheels();
    x.swing(11, 0);
    x.swing(12, 0);
    for (int i = 0; i < 2; i++) {
      x.share(i, 0, 1);
      x.share(i, 1, 1);
    }
    return x;
  }

  // Promise 45: "from is not .., or many not 1 to 9"; "'' if there never are any"; "with ' ' between"
  private static void tables() {
    for (Supplier<Moonwheels> house : List.of(EMPTY, ALMOST, FULL)) {
      moments("table from", house, (x, v) -> x.table(v, 3));
      Check.range("table many", BAD, 1, 9, house, (x, v) -> x.table(0, v));
    }
    Check.refused("table, both", BAD, FULL, x -> x.table(100001, 10));
    Check.is("without SWINGS", new Moonwheels().table(0, 9), "");
    Check.is("without SWINGS", new Moonwheels().table(-100000, 1), "");
    Check.is("all shares alike", swing(-7, -7).table(0, 9), "");
    Check.is("no HIGH and no LOW", swing(0, 5, 5, 0).table(0, 9), "");
    Moonwheels x = swing(0, 1, 2, 1);
    Check.is("one alone", x.table(0, 1), "0v0");
    Check.is("one behind it", x.table(1, 1), "2^2");
    Check.is("two", x.table(0, 2), "0v0 2^2");
    Check.is("nine", x.table(0, 9), "0v0 2^2 4v0 6^2 8v0 10^2 12v0 14^2 16v0");
    Check.is("below 0", x.table(-3, 3), "-2^2 0v0 2^2");
    Check.is("the least from", x.table(-100000, 2), "-100000v0 -99998^2");
    Check.is("the greatest from", x.table(100000, 3), "100000v0 100002^2 100004v0");
    Check.is("HEIGHT below 0", swing(-1, -99).table(0, 2), "0^-1 1v-99");
    Check.is("one HIGH a round, nine of them", swing(0, 5, 0).table(2, 9),
        "4^5 7^5 10^5 13^5 16^5 19^5 22^5 25^5 28^5");
    Check.is("two HIGHS and two LOWS in 132 moments, nine of them", longRound().table(13, 9),
        "35v0 98v0 121^2 144^2 167v0 230v0 253^2 276^2 299v0");
    Check.is("one LOW a round, nine of them", swing(0, -5, 0).table(1, 9),
        "1v-5 4v-5 7v-5 10v-5 13v-5 16v-5 19v-5 22v-5 25v-5");
  }

  // Promise 46: "the least common multiple of all rounds (1 without SWINGS)"
  private static void tideRounds() {
    Check.is("without SWINGS", new Moonwheels().tideRound(), 1);
    int[][] rounds = {{2, 2}, {12, 12}, {2, 12, 12}, {4, 6, 12}, {4, 6, 9, 36}, {11, 10, 9, 990}, {12, 11, 7, 924}};
    for (int[] row : rounds) {
      Moonwheels x = new Moonwheels();
      for (int i = 0; i < row.length - 1; i++) {
        x.swing(row[i], 0);
      }
      Check.is("the round of " + java.util.Arrays.toString(row), x.tideRound(), row[row.length - 1]);
    }
    Moonwheels x = new Moonwheels();
    x.swing(5, 0);
    x.swing(7, 0);
    x.undo();
    Check.is("the second is taken back", x.tideRound(), 5);
    x.undo();
    Check.is("without SWINGS any more", x.tideRound(), 1);
  }

  // Promises 47 to 49: "k is not 0 to 11" ahead of "value is not -9999 to 9999"; "days is not 1 to 60"
  private static void risingArguments() {
    for (Supplier<Moonwheels> house : List.of(EMPTY, FULL)) {
      Check.range("rise k", GONE, 0, 11, house, (x, v) -> x.rise(v, 5));
      Check.range("rise value", BAD, -9999, 9999, house, (x, v) -> x.rise(11, v));
      Check.range("pieces days", BAD, 1, 60, house, (x, v) -> x.pieces(v));
      moments("rising day", house, (x, v) -> x.rising(v));
      for (int value : new int[] {-10000, 10000}) {
        risesGone(house, -1, value);
        risesGone(house, 12, value);
      }
    }
  }

  private static void risesGone(Supplier<Moonwheels> house, int k, int value) {
    Check.refused("k ahead of the value", GONE, house, x -> x.rise(k, value));
  }

  // "12 told numbers (0 at first)", "(30 at first)"; floor below 0; number 0 behind number 11
  private static void risings() {
    Moonwheels x = new Moonwheels();
    Check.is("0 at first", x.rising(-100000), 0);
    Check.is("0 at first", x.rise(0, 9999), 0);
    Check.is("the one before", x.rise(0, -9999), 9999);
    Check.is("told as it was", x.rise(0, -9999), -9999);
    Check.is("the last number", x.rise(11, 9999), 0);
    Check.is("30 at first", x.pieces(1), 30);
    Check.is("the one before", x.pieces(60), 1);
    Check.is("told as it was", x.pieces(60), 60);
    Check.is("the first day", x.rising(0), -9999);
    Check.is("the last day of the first piece", x.rising(59), -9999 + 9999 * 59 / 60);
    Check.is("the first day of the second piece", x.rising(60), 0);
    Check.is("the last day of piece 10", x.rising(659), 9999 * 59 / 60);
    Check.is("the first day of piece 11", x.rising(660), 9999);
    // - 19998 * 59 / 60 is - 19664.7
    Check.is("the last day of piece 11: number 0 is behind it, floor below 0", x.rising(719), 9999 - 19665);
    Check.is("the next round", x.rising(720), -9999);
    Check.is("the day ahead of 0", x.rising(-1), 9999 - 19665);
    Check.is("a round ahead of 0", x.rising(-720), -9999);
    Check.is("the greatest day, 640 of its round", x.rising(100000), 9999 * 40 / 60);
    Check.is("the least day, 80 of its round", x.rising(-100000), 0);
    x.pieces(1);
    Check.is("a piece of one day", x.rising(11), 9999);
    Check.is("a piece of one day", x.rising(12), -9999);
    Check.is("a piece of one day, below 0", x.rising(-1), 9999);
    Check.is("a piece of one day, the least", x.rising(-100000), 0);
    Moonwheels y = new Moonwheels();
    y.rise(1, -1);
    Check.is("floor of -1 / 30 is -1", y.rising(1), -1);
    Check.is("floor of -29 / 30", y.rising(29), -1);
    y.rise(1, 1);
    Check.is("floor of 29 / 30", y.rising(29), 0);
    Check.is("from 1 to 0: floor of -1 / 30 again", y.rising(31), 0);
  }
}
