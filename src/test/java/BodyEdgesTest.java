import java.util.List;
import java.util.function.Consumer;
import java.util.function.Supplier;

/** Each sentence of promises 14 to 22 that names an edge. */
public final class BodyEdgesTest {
  private static final Class<IllegalArgumentException> BAD = IllegalArgumentException.class;
  private static final Class<IllegalStateException> STATE = IllegalStateException.class;
  private static final Class<IndexOutOfBoundsException> GONE = IndexOutOfBoundsException.class;
  private static final Supplier<Moonwheels> EMPTY = Houses::empty;
  private static final Supplier<Moonwheels> ALMOST = Houses::almost;
  private static final Supplier<Moonwheels> FULL = Houses::full;
  private static final int[] FAR = {-100001, 100001, Integer.MIN_VALUE, Integer.MAX_VALUE};

  public static void main(String[] args) {
    bodyArguments();
    bodiesUntilFull();
    retellArguments();
    retellSlips();
    noSuchBody();
    momentRanges();
    nexts();
    aheads();
    manies();
    setRanges();
    meetings();
    longMeetings();
    nevers();
    agains();
    windows();
    eventArguments();
    events();
    Check.end("BodyEdgesTest");
  }

  private static Moonwheels with(int... rows) {
    Moonwheels x = new Moonwheels();
    for (int i = 0; i + 2 < rows.length; i += 3) {
      x.body(rows[i], rows[i + 1], rows[i + 2]);
    }
    return x;
  }

  // Promise 14: "round is not 1 to 5000, begin not -10000 to 10000, or slip not 0 to round - 1"
  private static void bodyArguments() {
    for (Supplier<Moonwheels> house : List.of(EMPTY, ALMOST)) {
      Check.range("body round", BAD, 1, 5000, house, (x, v) -> x.body(v, 0, 0));
      Check.range("body begin", BAD, -10000, 10000, house, (x, v) -> x.body(9, v, 0));
      Check.range("body slip of ROUND 9", BAD, 0, 8, house, (x, v) -> x.body(9, 0, v));
      Check.range("body slip of ROUND 1", BAD, 0, 0, house, (x, v) -> x.body(1, 0, v));
      Check.range("body slip of ROUND 5000", BAD, 0, 4999, house, (x, v) -> x.body(5000, 0, v));
    }
    Check.refused("ROUND 0 has no SLIP", BAD, EMPTY, x -> x.body(0, 0, -1));
    Check.refused("all is wrong", BAD, EMPTY, x -> x.body(5001, 10001, 5001));
    Check.refused("the SLIP of ROUND 5001", BAD, EMPTY, x -> x.body(5001, 0, 5000));
  }

  // "at most 6"; "there are 6"; the arguments are named first
  private static void bodiesUntilFull() {
    Moonwheels x = new Moonwheels();
    for (int i = 0; i < 6; i++) {
      Check.is("numbers start with 0: " + i, x.body(10, i, 0), i);
      Check.is("house(1)", x.house(1), i + 1);
    }
    Check.is("a seventh", Check.thrown(() -> x.body(10, 6, 0)), STATE.getName());
    Check.is("the six are there", x.event(0, 5), "5:5");
    Check.is("and no more", x.event(0, 6), "10:0");
    Check.is("undo", x.undo(), 5);
    Check.is("a sixth anew", x.body(10, 7, 0), 5);
    Check.is("it is the new one", x.event(0, 5), "7:5");
    Check.refused("a seventh, the least of all", STATE, FULL, y -> y.body(1, -10000, 0));
    Check.refused("a seventh, the greatest of all", STATE, FULL, y -> y.body(5000, 10000, 4999));
    Check.refused("ROUND first", BAD, FULL, y -> y.body(0, 0, 0));
    Check.refused("ROUND first", BAD, FULL, y -> y.body(5001, 0, 0));
    Check.refused("beginning first", BAD, FULL, y -> y.body(5, 10001, 0));
    Check.refused("beginning first", BAD, FULL, y -> y.body(5, -10001, 0));
    Check.refused("SLIP first", BAD, FULL, y -> y.body(5, 0, 5));
    Check.refused("SLIP first", BAD, FULL, y -> y.body(5, 0, -1));
  }

  // Promise 15: "there is no such BODY" ahead of "round is not 1 to 5000, or begin not -10000 to 10000"
  private static void retellArguments() {
    for (Supplier<Moonwheels> house : List.of(ALMOST, FULL)) {
      Check.range("retell round", BAD, 1, 5000, house, (x, v) -> x.retell(0, v, 0));
      Check.range("retell begin", BAD, -10000, 10000, house, (x, v) -> x.retell(0, 9, v));
      Check.refused("both are wrong", BAD, house, x -> x.retell(0, 0, 10001));
    }
    Check.range("retell body of 5", GONE, 0, 4, ALMOST, (x, v) -> x.retell(v, 9, 0));
    Check.range("retell body of 6", GONE, 0, 5, FULL, (x, v) -> x.retell(v, 9, 0));
    Check.refused("retell without BODIES", GONE, EMPTY, x -> x.retell(0, 9, 0));
    Check.refused("the BODY first", GONE, EMPTY, x -> x.retell(0, 0, 0));
    Check.refused("the BODY first", GONE, ALMOST, x -> x.retell(5, 5001, 0));
    Check.refused("the BODY first", GONE, FULL, x -> x.retell(6, 9, 10001));
    Check.refused("the BODY first", GONE, FULL, x -> x.retell(-1, 0, -10001));
  }

  // "its SLIP becomes round - 1, if it was greater"
  private static void retellSlips() {
    Moonwheels x = with(20, 0, 10);
    Check.is("SLIP 10: the last NEAR moment", x.window(1, 10), "10");
    Check.is("SLIP 10: the first that is not", x.window(1, 11), "20");
    Check.is("the ROUND before", x.retell(0, 12, 0), 20);
    Check.is("10 is not greater than 11", x.window(1, 10), "10");
    Check.is("so 11 is not NEAR", x.window(1, 11), "12");
    Check.is("the ROUND before", x.retell(0, 11, 0), 12);
    Check.is("10 is not greater than 10", x.window(1, 10), "10");
    Check.is("the ROUND before", x.retell(0, 20, 0), 11);
    Check.is("it was not made less", x.window(1, 10), "10");
    Check.is("the ROUND before", x.retell(0, 10, 0), 20);
    Check.is("always NEAR", x.window(1, 9), "9");
    x.retell(0, 20, 0);
    Check.is("10 is greater than 9: it became 9", x.window(1, 9), "9");
    Check.is("10 is not NEAR any more", x.window(1, 10), "20");
    x.retell(0, 1, 0);
    x.retell(0, 20, 0);
    Check.is("with ROUND 1 it became 0", x.window(1, 1), "20");
    Check.is("undo", x.undo(), 7);
    Check.is("undo", x.undo(), 6);
    Check.is("it is 9 again", x.window(1, 9), "9");
    Check.is("and no more", x.window(1, 10), "20");
    Check.is("undo", x.undo(), 5);
    Check.is("undo", x.undo(), 4);
    Check.is("it is 10 again", x.window(1, 10), "10");
    Check.is("and no more", x.window(1, 11), "20");
    Check.is("the least", with(5000, 10000, 4999).retell(0, 1, -10000), 5000);
    Check.is("the greatest", with(1, -10000, 0).retell(0, 5000, 10000), 1);
  }

  private static void gone(String call, Supplier<Moonwheels> house, int body) {
    Check.refused(call + " nextOf " + body, GONE, house, x -> x.nextOf(body, 0));
    Check.refused(call + " aheadOf " + body, GONE, house, x -> x.aheadOf(body, 0));
    Check.refused(call + " many " + body, GONE, house, x -> x.many(body, 0, 9));
    for (int t : FAR) {
      Check.refused(call + " nextOf, the BODY first", GONE, house, x -> x.nextOf(body, t));
      Check.refused(call + " aheadOf, the BODY first", GONE, house, x -> x.aheadOf(body, t));
      Check.refused(call + " many, the BODY first", GONE, house, x -> x.many(body, t, 0));
      Check.refused(call + " many, the BODY first", GONE, house, x -> x.many(body, 0, t));
    }
  }

  // Promises 16 to 18: "there is no such BODY"
  private static void noSuchBody() {
    gone("empty", EMPTY, 0);
    for (int body : new int[] {-1, 5, 6, Integer.MIN_VALUE, Integer.MAX_VALUE}) {
      gone("five", ALMOST, body);
    }
    for (int body : new int[] {-1, 6, 7, Integer.MIN_VALUE, Integer.MAX_VALUE}) {
      gone("six", FULL, body);
    }
    gone("taken back", BodyEdgesTest::takenBack, 0);
    Check.is("the last one of six is there", Houses.full().nextOf(5, 0), 0);
    Check.is("the last one of five is there", Houses.almost().nextOf(4, 0), 4998);
  }

  private static Moonwheels takenBack() {
    Moonwheels x = with(3, 0, 0);
    x.undo();
    return x;
  }

  // Promises 16 to 18: "from is not -100000 to 100000", "from or to .."
  private static void momentRanges() {
    for (Supplier<Moonwheels> house : List.of(ALMOST, FULL)) {
      moments("nextOf", house, (x, v) -> x.nextOf(1, v));
      moments("aheadOf", house, (x, v) -> x.aheadOf(1, v));
      moments("many from", house, (x, v) -> x.many(1, v, 0));
      moments("many to", house, (x, v) -> x.many(1, 0, v));
      Check.refused("many, both", BAD, house, x -> x.many(1, 100001, -100001));
    }
  }

  private static void moments(String call, Supplier<Moonwheels> house, Check.Call run) {
    Check.range(call, BAD, -100000, 100000, house, run);
  }

  // Promise 16: "not below from": from itself may be it
  private static void nexts() {
    Moonwheels x = with(7, 3, 0, 5000, 1, 0, 1, 0, 0, 5000, -10000, 0);
    Check.is("the moment itself", x.nextOf(0, 3), 3);
    Check.is("one behind it", x.nextOf(0, 4), 10);
    Check.is("one ahead of it", x.nextOf(0, 2), 3);
    Check.is("below 0, itself", x.nextOf(0, -4), -4);
    Check.is("below 0, one behind it", x.nextOf(0, -3), 3);
    Check.is("from 0", x.nextOf(0, 0), 3);
    Check.is("the greatest from, farthest", x.nextOf(1, 100000), 100001);
    Check.is("nearly a ROUND above the greatest from", with(5000, -1, 0).nextOf(0, 100000), 104999);
    Check.is("the least from, itself", x.nextOf(3, -100000), -100000);
    Check.is("the least from", x.nextOf(1, -100000), -99999);
    Check.is("ROUND 1 MEETS always", x.nextOf(2, 100000), 100000);
    Check.is("ROUND 1 MEETS always", x.nextOf(2, -100000), -100000);
    Check.is("the greatest from, itself", x.nextOf(3, 100000), 100000);
    Check.is("the greatest beginning", with(5000, 10000, 0).nextOf(0, 10000), 10000);
    Check.is("behind the greatest beginning", with(4999, 10000, 0).nextOf(0, 10001), 14999);
    Check.is("ahead of the least beginning", with(4999, -10000, 0).nextOf(0, -10001), -10000);
  }

  // Promise 17: "below from": from itself is not it
  private static void aheads() {
    Moonwheels x = with(7, 3, 0, 5000, 1, 0, 1, 0, 0, 5000, -10000, 0);
    Check.is("not the moment itself", x.aheadOf(0, 3), -4);
    Check.is("one behind it", x.aheadOf(0, 4), 3);
    Check.is("below 0, not itself", x.aheadOf(0, -4), -11);
    Check.is("from 0", x.aheadOf(0, 0), -4);
    Check.is("the least from, farthest", x.aheadOf(3, -100000), -105000);
    Check.is("the least from", x.aheadOf(1, -100000), -104999);
    Check.is("the greatest from", x.aheadOf(1, 100000), 95001);
    Check.is("the greatest from, not itself", x.aheadOf(3, 100000), 95000);
    Check.is("ROUND 1", x.aheadOf(2, 100000), 99999);
    Check.is("ROUND 1", x.aheadOf(2, -100000), -100001);
    Check.is("ROUND 1", x.aheadOf(2, 0), -1);
  }

  // Promise 18: "both with it (0, if to is below from)"
  private static void manies() {
    Moonwheels x = with(7, 3, 0, 1, 0, 0, 5000, -10000, 0, 5000, 1, 0);
    Check.is("from is with it", x.many(0, 3, 9), 1);
    Check.is("to is with it", x.many(0, 4, 10), 1);
    Check.is("both are with it", x.many(0, 3, 10), 2);
    Check.is("between both", x.many(0, 4, 9), 0);
    Check.is("one moment, with it", x.many(0, 3, 3), 1);
    Check.is("one moment, without it", x.many(0, 4, 4), 0);
    Check.is("to is below from by one", x.many(1, 5, 4), 0);
    Check.is("to is below from, both MEET", x.many(0, 10, 3), 0);
    Check.is("to is far below from", x.many(1, 100000, -100000), 0);
    Check.is("below 0", x.many(0, -11, -4), 2);
    Check.is("over 0", x.many(0, -4, 3), 2);
    Check.is("all, ROUND 1", x.many(1, -100000, 100000), 200001);
    Check.is("all, the greatest ROUND with both ends", x.many(2, -100000, 100000), 41);
    Check.is("all, the greatest ROUND without the ends", x.many(3, -100000, 100000), 40);
    Check.is("the least moment", x.many(2, -100000, -100000), 1);
    Check.is("the greatest moment", x.many(2, 100000, 100000), 1);
  }

  // Promises 19 to 21: "set is 0 or below, or one in it is no BODY"; "from is not -100000 to 100000"
  private static void setRanges() {
    Check.range("meet set of 5", BAD, 1, 31, ALMOST, (x, v) -> x.meet(v, 0));
    Check.range("again set of 5", BAD, 1, 31, ALMOST, (x, v) -> x.again(v));
    Check.range("window set of 5", BAD, 1, 31, ALMOST, (x, v) -> x.window(v, 0));
    Check.range("meet set of 6", BAD, 1, 63, FULL, (x, v) -> x.meet(v, 0));
    Check.range("again set of 6", BAD, 1, 63, FULL, (x, v) -> x.again(v));
    Check.range("window set of 6", BAD, 1, 63, FULL, (x, v) -> x.window(v, 0));
    for (int set : new int[] {-1, 33, 48, 63, 64, 65, 1 << 30}) {
      sets("five", ALMOST, set);
    }
    for (int set : new int[] {-63, 65, 96, 127, 1 << 30}) {
      sets("six", FULL, set);
    }
    for (int set : new int[] {1, 0, -1, 63, Integer.MIN_VALUE, Integer.MAX_VALUE}) {
      sets("none", EMPTY, set);
      sets("none any more", BodyEdgesTest::takenBack, set);
    }
    moments("meet from", FULL, (x, v) -> x.meet(9, v));
    moments("window from", FULL, (x, v) -> x.window(9, v));
    moments("meet from, that never do", FULL, (x, v) -> x.meet(63, v));
  }

  private static void sets(String name, Supplier<Moonwheels> house, int set) {
    Check.refused(name + " meet " + set, BAD, house, x -> x.meet(set, 0));
    Check.refused(name + " again " + set, BAD, house, x -> x.again(set));
    Check.refused(name + " window " + set, BAD, house, x -> x.window(set, 0));
  }

  // Promise 19: "the first moment, not below from, at which all of the SET MEET, as digits"
  private static void meetings() {
    Moonwheels x = with(6, 1, 0, 4, 3, 0, 9, 4, 0, 1, 0, 0);
    Check.is("from itself", x.meet(3, 7), "7");
    Check.is("one behind it", x.meet(3, 8), "19");
    Check.is("one BODY, itself", x.meet(1, 1), "1");
    Check.is("one BODY, behind it", x.meet(1, 2), "7");
    Check.is("ROUND 1", x.meet(8, -17), "-17");
    Check.is("ROUND 1 with another one", x.meet(9, -17), "-17");
    Check.is("below 0", x.meet(7, -5), "-5");
    Check.is("below 0, one behind it", x.meet(7, -4), "31");
    Check.is("all, from the least", x.meet(15, -100000), "-99977");
    Check.is("all, from the greatest", x.meet(15, 100000), "100003");
    Check.is("at 0", with(5, 0, 0).meet(1, 0), "0");
    Moonwheels two = with(5000, 1, 0, 4999, 0, 0);
    // 4999 * 4999 is 1 behind a multiple of 5000
    Check.is("far beyond 100000", two.meet(3, 0), "24990001");
    Check.is("from the greatest", two.meet(3, 100000), "24990001");
    Check.is("the one ahead of 0", two.meet(3, -100000), "-4999");
    Check.is("the one ahead of 0 itself", two.meet(3, -4999), "-4999");
    Check.is("just behind it", two.meet(3, -4998), "24990001");
    Moonwheels six = with(5000, 0, 0, 4999, 0, 0, 4997, 0, 0, 4993, 0, 0, 4987, 0, 0, 4973, 0, 0);
    Check.is("beyond 64 bits", six.meet(63, 1), "15466138110042988145000");
    Check.is("beyond 64 bits, again", six.again(63), "15466138110042988145000");
    Check.is("at 0", six.meet(63, -100000), "0");
  }

  /** Digits beyond 10 to the 12th, where pieces of a number of twelve digits would have to carry or to borrow. */
  private static void longMeetings() {
    int[] rounds = {5000, 4999, 4997, 4993, 4987, 4973};
    String[] moments = {"999999999995", "1000000000000", "1000000000005", "1999999999995", "2000000000000",
        "2000000000005", "12345678901234567890", "1000000000000000000000", "1000000000000000099999",
        "999999999999999999999", "15466138110042988144999"};
    for (String moment : moments) {
      java.math.BigInteger due = new java.math.BigInteger(moment);
      Moonwheels x = new Moonwheels();
      for (int round : rounds) {
        x.body(round, due.mod(java.math.BigInteger.valueOf(round)).intValue(), 0);
      }
      for (int from : new int[] {-100000, -99995, -6, -5, -1, 0, 1, 5, 6, 99999, 100000}) {
        boolean isBefore = from < 0 && moment.endsWith("88144999");
        Check.is("meet(63, " + from + ") of " + moment, x.meet(63, from), isBefore ? "-1" : moment);
      }
    }
  }

  // "never", "the two that prove it, with the smallest first number, then the smallest second one"
  private static void nevers() {
    Moonwheels x = with(4, 0, 0, 4, 0, 0, 4, 1, 0, 6, 0, 0, 6, 3, 0, 10, 1, 0);
    Check.is("two alike meet", x.meet(3, 1), "4");
    Check.is("two alike but for the beginning", x.meet(5, 0), "never 0 2");
    Check.is("the smallest first number", x.meet(63, 0), "never 0 2");
    Check.is("without 0", x.meet(62, 0), "never 1 2");
    Check.is("without 0 and 1", x.meet(60, 0), "never 2 3");
    Check.is("the smallest second number", x.meet(28, 0), "never 2 3");
    Check.is("without 3: 2 and 4 meet, 2 and 5 too, 4 and 5 too", x.meet(52, 0), "21");
    Check.is("without 2", x.meet(59, 0), "never 0 4");
    Check.is("not in the SET: no proof", x.meet(11, 1), "12");
    Check.is("the last two", x.meet(48, 0), "21");
    Check.is("3 and 4", x.meet(24, 0), "never 3 4");
    Check.is("3 and 5", x.meet(40, 0), "never 3 5");
    Check.is("one alone always does", x.meet(32, 0), "1");
    Check.is("never, from the least on", x.meet(24, -100000), "never 3 4");
    Check.is("never, from the greatest on", x.meet(24, 100000), "never 3 4");
    Check.is("isSound with some that never meet", x.isSound(), true);
    Check.is("beginnings far apart, by a multiple", with(5000, -10000, 0, 5000, 10000, 0).meet(3, 0), "0");
    Check.is("by one less", with(5000, -10000, 0, 5000, 9999, 0).meet(3, 0), "never 0 1");
    Check.is("ROUND 1 always meets", with(5000, -10000, 0, 1, 9999, 0).meet(3, 1), "5000");
  }

  // Promise 20
  private static void agains() {
    Moonwheels x = with(1, 0, 0, 5000, 3, 0, 2500, 1, 0, 6, 0, 0, 4999, 0, 0);
    Check.is("ROUND 1", x.again(1), "1");
    Check.is("one BODY", x.again(2), "5000");
    Check.is("one divides the other", x.again(6), "5000");
    Check.is("also if they never meet", x.again(10), "15000");
    Check.is("nothing in common", x.again(18), "24995000");
    Check.is("all", x.again(31), "74985000");
    Check.is("the same ROUND twice", with(7, 0, 0, 7, 1, 0).again(3), "7");
  }

  // Promise 21: "the first moment from from to from + 3000 at which all of the SET are NEAR; '-' without one"
  private static void windows() {
    Moonwheels x = with(5000, 0, 0, 5000, 3000, 0, 10, 0, 9, 10, 0, 0, 12, 0, 4);
    Check.is("from itself", x.window(1, 0), "0");
    Check.is("from + 3000", x.window(2, 0), "3000");
    Check.is("from + 3001", x.window(2, -1), "-");
    Check.is("from + 2999", x.window(2, 1), "3000");
    Check.is("just behind it", x.window(1, 1), "-");
    Check.is("2000 ahead", x.window(1, 1999), "-");
    Check.is("the first that has it again", x.window(1, 2000), "5000");
    Check.is("never both", x.window(3, 0), "-");
    Check.is("SLIP of ROUND - 1 is always NEAR", x.window(4, -7), "-7");
    Check.is("SLIP 0: only where it MEETS", x.window(8, 1), "10");
    Check.is("SLIP 4: the last NEAR one", x.window(16, 4), "4");
    Check.is("SLIP 4: not 5", x.window(16, 5), "12");
    Check.is("SLIP 4, below 0", x.window(16, -9), "-9");
    Check.is("SLIP 4, below 0: not -7", x.window(16, -7), "0");
    Check.is("two, both NEAR", x.window(24, 1), "40");
    Check.is("the greatest from, its last moment", with(5000, 3000, 0).window(0 + 1, 100000), "103000");
    Check.is("the greatest from, without one", with(5000, 3001, 0).window(1, 100000), "-");
    Check.is("the least from", with(5000, 0, 0).window(1, -100000), "-100000");
    Check.is("the least from, its last moment", with(5000, 3000, 0).window(1, -100000), "-97000");
    Check.is("the least from, without one", with(5000, 3001, 0).window(1, -100000), "-");
    Check.is("the NEAR ones reach over from", with(5000, -100, 200).window(1, 100000), "100000");
    Check.is("and end", with(5000, -100, 99).window(1, 100000), "-");
  }

  // Promise 22: "from is not -100000 to 100000, or k not 0 to 30", "'-' without BODIES"
  private static void eventArguments() {
    for (Supplier<Moonwheels> house : List.of(EMPTY, ALMOST, FULL)) {
      moments("event from", house, (x, v) -> x.event(v, 0));
      Check.range("event k", BAD, 0, 30, house, (x, v) -> x.event(0, v));
      refusedEvent(house, x -> x.event(100001, 31));
    }
    Check.is("without BODIES", new Moonwheels().event(0, 0), "-");
    Check.is("without BODIES", new Moonwheels().event(-100000, 30), "-");
    Check.is("without BODIES any more", takenBack().event(0, 0), "-");
  }

  private static void refusedEvent(Supplier<Moonwheels> house, Consumer<Moonwheels> run) {
    Check.refused("event, both", BAD, house, run);
  }

  // "from that moment on, by moments, then by numbers of BODIES, the one number k"
  private static void events() {
    Moonwheels one = with(1, 0, 0);
    Check.is("k = 0 is from itself", one.event(5, 0), "5:0");
    Check.is("k = 30", one.event(5, 30), "35:0");
    Check.is("below 0", one.event(-100000, 0), "-100000:0");
    Check.is("above 100000", one.event(100000, 30), "100030:0");
    Moonwheels x = with(6, 0, 0, 4, 0, 0, 12, 0, 0);
    String[] due = {"0:0", "0:1", "0:2", "4:1", "6:0", "8:1", "12:0", "12:1", "12:2"};
    for (int k = 0; k < due.length; k++) {
      Check.is("event(0, " + k + ")", x.event(0, k), due[k]);
      // The same a round of 12 ahead of 0.
      int colon = due[k].indexOf(':');
      int moment = Integer.parseInt(due[k].substring(0, colon)) - 12;
      Check.is("event(-12, " + k + ")", x.event(-12, k), moment + due[k].substring(colon));
    }
    Check.is("just behind a moment", x.event(1, 0), "4:1");
    Check.is("just ahead of one", x.event(-1, 0), "0:0");
    Moonwheels same = with(9, 1, 0, 9, 1, 0, 9, 1, 0, 9, 1, 0, 9, 1, 0, 9, 1, 0);
    for (int k = 0; k <= 30; k++) {
      Check.is("six at the same moment, " + k, same.event(1, k), (1 + k / 6 * 9) + ":" + k % 6);
    }
    Moonwheels slow = with(5000, 10000, 0);
    Check.is("the farthest", slow.event(100000, 30), "250000:0");
    Check.is("the farthest, one behind", slow.event(99999, 30), "250000:0");
    Check.is("from the least", slow.event(-100000, 0), "-100000:0");
  }
}
