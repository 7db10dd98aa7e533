import java.util.List;
import java.util.function.Consumer;
import java.util.function.Supplier;

/** Each sentence of promises 24 to 35 that names an edge. */
public final class CalendarEdgesTest {
  private static final Class<IllegalArgumentException> BAD = IllegalArgumentException.class;
  private static final Class<IllegalStateException> STATE = IllegalStateException.class;
  private static final Class<IndexOutOfBoundsException> GONE = IndexOutOfBoundsException.class;
  private static final Supplier<Moonwheels> EMPTY = Houses::empty;
  private static final Supplier<Moonwheels> ALMOST = Houses::almost;
  private static final Supplier<Moonwheels> FULL = Houses::full;

  public static void main(String[] args) {
    sunArguments();
    moonArguments();
    calendarsUntilFull();
    noSuchCalendar();
    yearRanges();
    yearBegins();
    leapYears();
    leapCounts();
    drifts();
    sunMonths();
    moonMonths();
    dates();
    turnedDates();
    civilDays();
    fromCivilArguments();
    feastArguments();
    feasts();
    Check.end("CalendarEdgesTest");
  }

  private static Moonwheels sun(int days, int extra, int cycle, int shift, int months) {
    Moonwheels x = new Moonwheels();
    x.sun(days, extra, cycle, shift, months);
    return x;
  }

  private static Moonwheels moon(int top, int bottom, int extra, int cycle, int shift) {
    Moonwheels x = new Moonwheels();
    x.moon(top, bottom, extra, cycle, shift);
    return x;
  }

  // Promise 24: "days is not 20 to 500, cycle not 1 to 500, extra or shift not 0 to cycle - 1, or months not 1 to 20"
  private static void sunArguments() {
    for (Supplier<Moonwheels> house : List.of(EMPTY, ALMOST)) {
      Check.range("sun days", BAD, 20, 500, house, (x, v) -> x.sun(v, 1, 4, 0, 12));
      Check.range("sun extra", BAD, 0, 3, house, (x, v) -> x.sun(365, v, 4, 0, 12));
      Check.range("sun extra of cycle 1", BAD, 0, 0, house, (x, v) -> x.sun(365, v, 1, 0, 12));
      Check.range("sun extra of cycle 500", BAD, 0, 499, house, (x, v) -> x.sun(365, v, 500, 0, 12));
      Check.range("sun cycle", BAD, 1, 500, house, (x, v) -> x.sun(365, 0, v, 0, 12));
      Check.range("sun shift", BAD, 0, 3, house, (x, v) -> x.sun(365, 1, 4, v, 12));
      Check.range("sun shift of cycle 1", BAD, 0, 0, house, (x, v) -> x.sun(365, 0, 1, v, 12));
      Check.range("sun shift of cycle 500", BAD, 0, 499, house, (x, v) -> x.sun(365, 1, 500, v, 12));
      Check.range("sun months", BAD, 1, 20, house, (x, v) -> x.sun(365, 1, 4, 0, v));
    }
    Check.refused("all is wrong", BAD, EMPTY, x -> x.sun(501, 501, 501, 501, 21));
    Check.refused("cycle 501 and what fits it", BAD, EMPTY, x -> x.sun(365, 500, 501, 500, 12));
    Check.refused("cycle 0 and what would fit it", BAD, EMPTY, x -> x.sun(365, -1, 0, -1, 12));
  }

  // Promise 25: "bottom is not 1 to 9999, top not 5 * bottom to 60 * bottom, cycle not 1 to 500, ..."
  private static void moonArguments() {
    for (Supplier<Moonwheels> house : List.of(EMPTY, ALMOST)) {
      Check.range("moon bottom", BAD, 1, 6, house, (x, v) -> x.moon(30, v, 7, 19, 0));
      Check.range("moon top of bottom 1", BAD, 5, 60, house, (x, v) -> x.moon(v, 1, 7, 19, 0));
      Check.range("moon top of bottom 2", BAD, 10, 120, house, (x, v) -> x.moon(v, 2, 7, 19, 0));
      Check.range("moon top of bottom 9999", BAD, 49995, 599940, house, (x, v) -> x.moon(v, 9999, 7, 19, 0));
      Check.range("moon extra", BAD, 0, 18, house, (x, v) -> x.moon(59, 2, v, 19, 0));
      Check.range("moon extra of cycle 1", BAD, 0, 0, house, (x, v) -> x.moon(59, 2, v, 1, 0));
      Check.range("moon cycle", BAD, 1, 500, house, (x, v) -> x.moon(59, 2, 0, v, 0));
      Check.range("moon shift", BAD, 0, 18, house, (x, v) -> x.moon(59, 2, 7, 19, v));
      Check.range("moon shift of cycle 500", BAD, 0, 499, house, (x, v) -> x.moon(59, 2, 7, 500, v));
      for (int top : new int[] {49999, 50000, 59000, 600000, 600001}) {
        moonOf10000(house, x -> x.moon(top, 10000, 7, 19, 0));
      }
    }
    Check.refused("bottom 0 and top 0", BAD, EMPTY, x -> x.moon(0, 0, 7, 19, 0));
    Check.refused("both below 0", BAD, EMPTY, x -> x.moon(-59, -2, 7, 19, 0));
    Check.refused("5 * bottom wraps around", BAD, EMPTY, x -> x.moon(4, 858993460, 7, 19, 0));
    Check.refused("all is wrong", BAD, EMPTY, x -> x.moon(0, 10000, 501, 501, 501));
  }

  private static void moonOf10000(Supplier<Moonwheels> house, Consumer<Moonwheels> run) {
    Check.refused("moon bottom 10000", BAD, house, run);
  }

  // "at most 4"; "there are 4"; the arguments are named first
  private static void calendarsUntilFull() {
    Moonwheels x = new Moonwheels();
    Check.is("numbers start with 0", x.sun(365, 1, 4, 0, 12), 0);
    Check.is("both kinds are counted together", x.moon(59, 2, 7, 19, 0), 1);
    Check.is("the third", x.sun(100, 0, 1, 0, 1), 2);
    Check.is("the fourth", x.moon(30, 1, 0, 1, 0), 3);
    Check.is("house(2)", x.house(2), 4);
    Check.is("a fifth of the SUN", Check.thrown(() -> x.sun(365, 1, 4, 0, 12)), STATE.getName());
    Check.is("a fifth of the MOON", Check.thrown(() -> x.moon(59, 2, 7, 19, 0)), STATE.getName());
    Check.is("undo", x.undo(), 3);
    Check.is("the fourth is gone", Check.thrown(() -> x.yearBegin(3, 0)), GONE.getName());
    Check.is("the third is there", x.yearBegin(2, 7), 700);
    Check.is("a fourth anew", x.sun(200, 0, 1, 0, 1), 3);
    Check.is("it is the new one", x.yearBegin(3, 7), 1400);
    Check.refused("a fifth of the SUN", STATE, FULL, y -> y.sun(20, 0, 1, 0, 1));
    Check.refused("a fifth of the SUN", STATE, FULL, y -> y.sun(500, 499, 500, 499, 20));
    Check.refused("a fifth of the MOON", STATE, FULL, y -> y.moon(5, 1, 0, 1, 0));
    Check.refused("a fifth of the MOON", STATE, FULL, y -> y.moon(599940, 9999, 499, 500, 499));
    int[][] suns = {{19, 0, 1, 0, 1}, {501, 0, 1, 0, 1}, {20, 1, 1, 0, 1}, {20, -1, 1, 0, 1}, {20, 0, 0, 0, 1},
        {20, 0, 501, 0, 1}, {20, 0, 1, 1, 1}, {20, 0, 1, -1, 1}, {20, 0, 1, 0, 0}, {20, 0, 1, 0, 21}};
    for (int[] c : suns) {
      Check.refused("the arguments of sun first", BAD, FULL, y -> y.sun(c[0], c[1], c[2], c[3], c[4]));
    }
    int[][] moons = {{0, 0, 0, 1, 0}, {50000, 10000, 0, 1, 0}, {4, 1, 0, 1, 0}, {61, 1, 0, 1, 0}, {5, 1, 1, 1, 0},
        {5, 1, -1, 1, 0}, {5, 1, 0, 0, 0}, {5, 1, 0, 501, 0}, {5, 1, 0, 1, 1}, {5, 1, 0, 1, -1}};
    for (int[] c : moons) {
      Check.refused("the arguments of moon first", BAD, FULL, y -> y.moon(c[0], c[1], c[2], c[3], c[4]));
    }
  }

  /** All that ask a CALENDAR, with a right year and with a wrong one, as the CALENDAR goes first. */
  private static void gone(Supplier<Moonwheels> house, int calendar) {
    for (int year : new int[] {0, 3001, Integer.MIN_VALUE}) {
      String name = " of " + calendar + " in " + year;
      Check.refused("yearBegin" + name, GONE, house, x -> x.yearBegin(calendar, year));
      Check.refused("isLeap" + name, GONE, house, x -> x.isLeap(calendar, year));
      Check.refused("leaps" + name, GONE, house, x -> x.leaps(calendar, year, 1));
      Check.refused("leaps, many wrong" + name, GONE, house, x -> x.leaps(calendar, year, -1));
      Check.refused("drift" + name, GONE, house, x -> x.drift(calendar, year));
      Check.refused("dayOf" + name, GONE, house, x -> x.dayOf(calendar, year, 1, 1));
      Check.refused("dayOf, no month" + name, GONE, house, x -> x.dayOf(calendar, year, 0, 1));
      Check.refused("dayOf, no day" + name, GONE, house, x -> x.dayOf(calendar, year, 1, 0));
      Check.refused("turned" + name, GONE, house, x -> x.turned(calendar, 0, year, 1, 1));
      Check.refused("turned to" + name, GONE, house, x -> x.turned(0, calendar, year, 1, 1));
      Check.refused("turned to, no month" + name, GONE, house, x -> x.turned(0, calendar, year, 99, 1));
      Check.refused("turned, both" + name, GONE, house, x -> x.turned(calendar, calendar, year, 1, 1));
      Check.refused("feast" + name, GONE, house, x -> x.feast(calendar, year, 1, 0, 0));
      Check.refused("feast, no month, no week" + name, GONE, house, x -> x.feast(calendar, year, 0, 0, 7));
    }
    Check.refused("date of " + calendar, GONE, house, x -> x.date(calendar, 0));
    Check.refused("date, a wrong day, of " + calendar, GONE, house, x -> x.date(calendar, 1000001));
  }

  // Promises 26 to 32: "there is no such CALENDAR"
  private static void noSuchCalendar() {
    gone(EMPTY, 0);
    for (int calendar : new int[] {-1, 3, 4, Integer.MIN_VALUE, Integer.MAX_VALUE}) {
      gone(ALMOST, calendar);
    }
    for (int calendar : new int[] {-1, 4, 5, Integer.MIN_VALUE, Integer.MAX_VALUE}) {
      gone(FULL, calendar);
    }
    gone(CalendarEdgesTest::takenBack, 0);
    Check.is("the last one of four is there", Houses.full().date(3, 0), "0/1/1");
    Check.is("the last one of three is there", Houses.almost().yearBegin(2, 0), 0);
  }

  private static Moonwheels takenBack() {
    Moonwheels x = sun(365, 1, 4, 0, 12);
    x.undo();
    return x;
  }

  // "year is not -3000 to 3000", "many not 0 to 1000", "day is not -1000000 to 1000000"
  private static void yearRanges() {
    for (int c = 0; c < 4; c++) {
      int calendar = c;
      years("yearBegin", (x, v) -> x.yearBegin(calendar, v));
      years("isLeap", (x, v) -> x.isLeap(calendar, v));
      years("leaps", (x, v) -> x.leaps(calendar, v, 1000));
      years("drift", (x, v) -> x.drift(calendar, v));
      years("dayOf", (x, v) -> x.dayOf(calendar, v, 1, 1));
      years("turned", (x, v) -> x.turned(calendar, 3 - calendar, v, 12, 1));
      years("feast", (x, v) -> x.feast(calendar, v, 1, 5, 6));
      Check.range("leaps many", BAD, 0, 1000, FULL, (x, v) -> x.leaps(calendar, 3000, v));
      Check.range("date day", BAD, -1000000, 1000000, FULL, (x, v) -> x.date(calendar, v));
    }
    Check.refused("leaps, both", BAD, FULL, x -> x.leaps(0, 3001, 1001));
    for (Supplier<Moonwheels> house : List.of(EMPTY, FULL)) {
      Check.range("civil day", BAD, -1000000, 1000000, house, (x, v) -> x.civil(v));
    }
  }

  private static void years(String call, Check.Call run) {
    Check.range(call, BAD, -3000, 3000, FULL, run);
  }

  // Promise 26: "floor ... also below 0"
  private static void yearBegins() {
    Moonwheels x = sun(365, 1, 4, 0, 12);
    Check.is("the year 0 begins with the day 0", x.yearBegin(0, 0), 0);
    Check.is("a year later", x.yearBegin(0, 1), 365);
    Check.is("a year ahead: floor of -1 / 4 is -1", x.yearBegin(0, -1), -366);
    Check.is("a whole cycle", x.yearBegin(0, 4), 1461);
    Check.is("a whole cycle ahead", x.yearBegin(0, -4), -1461);
    Check.is("one more ahead", x.yearBegin(0, -5), -1461 - 366);
    Check.is("the greatest year", x.yearBegin(0, 3000), 1095750);
    Check.is("the least year", x.yearBegin(0, -3000), -1095750);
    Check.is("the shift does not reach the year 0", sun(365, 1, 4, 3, 12).yearBegin(0, 0), 0);
    Check.is("the shift makes the year 0 a LEAP year", sun(365, 1, 4, 3, 12).yearBegin(0, 1), 366);
    Check.is("and the year -1 none", sun(365, 1, 4, 3, 12).yearBegin(0, -1), -365);
    Check.is("cycle 1 has no LEAP years", sun(20, 0, 1, 0, 1).yearBegin(0, -3000), -60000);
    Check.is("the most days", sun(500, 499, 500, 499, 20).yearBegin(0, 3000), 3000 * 500 + 2994);
    Check.is("the most days, below 0", sun(500, 499, 500, 0, 20).yearBegin(0, -3000), -3000 * 500 - 2994);
    Check.is("MOON, the year 0", moon(59, 2, 7, 19, 0).yearBegin(0, 0), 0);
    // 13 months ahead: floor of -767 / 2
    Check.is("MOON, the year ahead", moon(59, 2, 7, 19, 0).yearBegin(0, -1), -384);
    Check.is("MOON, a whole cycle", moon(59, 2, 7, 19, 0).yearBegin(0, 19), 6932);
    Check.is("MOON, a whole cycle ahead", moon(59, 2, 7, 19, 0).yearBegin(0, -19), -6933);
    Check.is("MOON, the most", moon(599940, 9999, 499, 500, 499).yearBegin(0, 3000), 60 * (36000 + 2994));
    Check.is("MOON, the least", moon(599940, 9999, 499, 500, 0).yearBegin(0, -3000), -60 * (36000 + 2994));
    Check.is("MOON, the shortest months", moon(5, 1, 0, 1, 0).yearBegin(0, 3000), 180000);
  }

  // Promise 27: "A year is a LEAP year, if the LEAPS ahead of the next one are more."
  private static void leapYears() {
    Moonwheels x = sun(365, 1, 4, 0, 12);
    for (int year = -9; year <= 9; year++) {
      Check.is("isLeap(0, " + year + ")", x.isLeap(0, year), Math.floorMod(year, 4) == 3);
    }
    Check.is("the least year", x.isLeap(0, -3000), false);
    Check.is("the least LEAP year", x.isLeap(0, -2997), true);
    Check.is("the greatest year", x.isLeap(0, 3000), false);
    Check.is("the greatest LEAP year", x.isLeap(0, 2999), true);
    Check.is("extra 0", sun(365, 0, 500, 499, 12).isLeap(0, 0), false);
    Check.is("extra cycle - 1: all but one", sun(365, 499, 500, 499, 12).isLeap(0, 0), true);
    Check.is("extra cycle - 1: the one", sun(365, 499, 500, 0, 12).isLeap(0, 0), false);
    Check.is("extra cycle - 1: behind the one", sun(365, 499, 500, 0, 12).isLeap(0, 1), true);
    Check.is("cycle 1", sun(365, 0, 1, 0, 12).isLeap(0, 3000), false);
    Check.is("the least year, by the shift", sun(365, 1, 4, 3, 12).isLeap(0, -3000), true);
    Check.is("the greatest year, by the shift", sun(365, 1, 4, 3, 12).isLeap(0, 3000), true);
    Moonwheels y = moon(59, 2, 7, 19, 0);
    for (int year = -19; year <= 19; year++) {
      boolean due = Math.floorDiv((year + 1) * 7, 19) > Math.floorDiv(year * 7, 19);
      Check.is("MOON, isLeap(0, " + year + ")", y.isLeap(0, year), due);
    }
  }

  // Promise 28: "from that year on in so many years"
  private static void leapCounts() {
    Moonwheels x = sun(365, 1, 4, 0, 12);
    Check.is("in no years", x.leaps(0, 3, 0), 0);
    Check.is("in no years, the greatest", x.leaps(0, 3000, 0), 0);
    Check.is("that year is with it", x.leaps(0, 3, 1), 1);
    Check.is("the last year is with it", x.leaps(0, 0, 4), 1);
    Check.is("the year behind is not", x.leaps(0, 0, 3), 0);
    Check.is("below 0", x.leaps(0, -1, 1), 1);
    Check.is("over 0", x.leaps(0, -1, 5), 2);
    Check.is("over 0, not the last one", x.leaps(0, -1, 4), 1);
    Check.is("the most from the least", x.leaps(0, -3000, 1000), 250);
    Check.is("the most from the greatest", x.leaps(0, 3000, 1000), 250);
    Check.is("extra 0", sun(365, 0, 5, 4, 12).leaps(0, 0, 1000), 0);
    Check.is("all but one in 500", sun(365, 499, 500, 0, 12).leaps(0, 0, 1000), 998);
    Check.is("MOON", moon(59, 2, 7, 19, 0).leaps(0, -3000, 19), 7);
    Check.is("MOON, the most from the greatest", moon(59, 2, 7, 19, 0).leaps(0, 3000, 1000),
        4000 * 7 / 19 - 3000 * 7 / 19);
  }

  // Promise 29: as a FRACTION; mod below 0
  private static void drifts() {
    Moonwheels x = sun(365, 1, 4, 0, 12);
    Check.is("0 is 0/1", x.drift(0, 0), "0/1");
    Check.is("the year 1", x.drift(0, 1), "1/4");
    Check.is("in lowest terms", x.drift(0, 2), "1/2");
    Check.is("below 0", x.drift(0, -1), "3/4");
    Check.is("below 0, a whole cycle", x.drift(0, -4), "0/1");
    Check.is("the least year", x.drift(0, -3000), "0/1");
    Check.is("the greatest year", x.drift(0, 3000), "0/1");
    Check.is("the shift", sun(365, 1, 4, 3, 12).drift(0, 0), "3/4");
    Check.is("the shift over the cycle", sun(365, 1, 4, 3, 12).drift(0, 1), "0/1");
    Check.is("cycle 1", sun(365, 0, 1, 0, 12).drift(0, 3000), "0/1");
    Check.is("the greatest", sun(365, 499, 500, 499, 12).drift(0, 0), "499/500");
    Check.is("the greatest below 0", sun(365, 499, 500, 499, 12).drift(0, -3000), "499/500");
    Check.is("MOON below 0", moon(59, 2, 7, 19, 0).drift(0, -1), "12/19");
  }

  private static void noDay(Supplier<Moonwheels> house, int calendar, int year, int month, int day) {
    String name = "no " + year + "/" + month + "/" + day + " of " + calendar;
    Check.refused("dayOf: " + name, BAD, house, x -> x.dayOf(calendar, year, month, day));
    Check.refused("turned: " + name, BAD, house, x -> x.turned(calendar, 0, year, month, day));
  }

  private static void noMonths(Supplier<Moonwheels> house, int calendar, int year, int... months) {
    for (int month : months) {
      noDay(house, calendar, year, month, 1);
      Check.refused("feast: no month " + month, BAD, house, x -> x.feast(calendar, year, month, 0, 0));
    }
  }

  // Promise 30 of the SUN: "or it has no such month, or that has no such day"; from 1 on
  private static void sunMonths() {
    Moonwheels x = Houses.full();
    Check.is("the first day", x.dayOf(0, 0, 1, 1), 0);
    Check.is("the last day of a month", x.dayOf(0, 0, 1, 30), 29);
    Check.is("the first day of the next month", x.dayOf(0, 0, 2, 1), 30);
    Check.is("the last day of the last month", x.dayOf(0, 0, 12, 31), 364);
    Check.is("the last day of a LEAP year", x.dayOf(0, 3, 12, 31), 1460);
    Check.is("the year ahead, its last day", x.dayOf(0, -1, 12, 31), -1);
    Check.is("the year ahead, its first day", x.dayOf(0, -1, 1, 1), -366);
    Check.is("the least", x.dayOf(0, -3000, 1, 1), -1095750);
    Check.is("the greatest", x.dayOf(0, 3000, 12, 31), 1095750 + 364);
    noMonths(FULL, 0, 0, 0, 13, -1, Integer.MIN_VALUE, Integer.MAX_VALUE);
    for (int day : new int[] {0, 31, -1, Integer.MIN_VALUE, Integer.MAX_VALUE}) {
      noDay(FULL, 0, 0, 1, day);
    }
    noDay(FULL, 0, 0, 12, 32);
    noDay(FULL, 0, 3, 12, 32);
    noDay(FULL, 0, -3000, 1, 0);
    noDay(FULL, 0, 3000, 12, 32);
    noDay(FULL, 0, 3001, 13, 32);
    // 20 days, or 21, in 20 months
    Check.is("a month of one day", x.dayOf(2, 1, 20, 1), x.yearBegin(2, 2) - 1);
    Check.is("21 days: the last month has two", x.dayOf(2, 0, 20, 2), 20);
    noDay(FULL, 2, 1, 20, 2);
    noDay(FULL, 2, 0, 20, 3);
    noMonths(FULL, 2, 0, 0, 21);
    Check.is("one month", sun(500, 0, 1, 0, 1).dayOf(0, 0, 1, 500), 499);
    noDay(() -> sun(500, 0, 1, 0, 1), 0, 0, 1, 501);
    noMonths(CalendarEdgesTest::oneMonth, 0, 0, 0, 2);
    Check.is("the longest month", sun(500, 499, 500, 499, 1).dayOf(0, 0, 1, 501), 500);
    noDay(() -> sun(500, 499, 500, 499, 1), 0, 0, 1, 502);
  }

  private static Moonwheels oneMonth() {
    Moonwheels x = sun(500, 0, 1, 0, 1);
    x.body(3, 0, 0);
    return x;
  }

  // Promise 30 of the MOON: "it has 12 months, a LEAP year 13"
  private static void moonMonths() {
    Moonwheels x = Houses.full();
    Check.is("a month of 29 days, its last", x.dayOf(1, 0, 1, 29), 28);
    Check.is("a month of 30 days, its last", x.dayOf(1, 0, 2, 30), 58);
    noDay(FULL, 1, 0, 1, 30);
    noDay(FULL, 1, 0, 2, 31);
    noDay(FULL, 1, 0, 1, 0);
    Check.is("a LEAP year has month 13", x.dayOf(1, 2, 13, 1), 1062);
    Check.is("the last day of it", x.dayOf(1, 2, 13, 29), x.yearBegin(1, 3) - 1);
    noMonths(FULL, 1, 2, 0, 14);
    noMonths(FULL, 1, 0, 0, 13);
    noMonths(FULL, 1, 1, 13, -1, Integer.MIN_VALUE, Integer.MAX_VALUE);
    noDay(FULL, 1, 2, 13, 30);
    Check.is("below 0, a LEAP year", x.dayOf(1, -1, 13, 30), -1);
    noDay(FULL, 1, -1, 13, 31);
    noMonths(FULL, 1, -2, 13);
    Check.is("the shortest months", moon(5, 1, 0, 1, 0).dayOf(0, 0, 12, 5), 59);
    noDay(() -> moon(5, 1, 0, 1, 0), 0, 0, 12, 6);
    Check.is("the longest months", moon(60, 1, 0, 1, 0).dayOf(0, 0, 12, 60), 719);
    noDay(() -> moon(60, 1, 0, 1, 0), 0, 0, 12, 61);
    Check.is("the least", moon(60, 1, 0, 1, 0).dayOf(0, -3000, 1, 1), -2160000);
    Check.is("the greatest", moon(60, 1, 0, 1, 0).dayOf(0, 3000, 12, 60), 2160719);
  }

  // Promise 31
  private static void dates() {
    Moonwheels x = Houses.full();
    Check.is("the day 0", x.date(0, 0), "0/1/1");
    Check.is("the day ahead", x.date(0, -1), "-1/12/31");
    Check.is("the last of a year", x.date(0, 364), "0/12/31");
    Check.is("the first of the next", x.date(0, 365), "1/1/1");
    Check.is("the last of a LEAP year", x.date(0, 1460), "3/12/31");
    Check.is("behind a LEAP year", x.date(0, 1461), "4/1/1");
    Check.is("the last of a month", x.date(0, 29), "0/1/30");
    Check.is("the first of the next", x.date(0, 30), "0/2/1");
    Check.is("the least day", sun(20, 0, 1, 0, 20).date(0, -1000000), "-50000/1/1");
    Check.is("the greatest day", sun(20, 0, 1, 0, 20).date(0, 1000000), "50000/1/1");
    Check.is("the day ahead of it", sun(20, 0, 1, 0, 20).date(0, 999999), "49999/20/1");
    Check.is("MOON, the day 0", x.date(1, 0), "0/1/1");
    Check.is("MOON, the day ahead", x.date(1, -1), "-1/13/30");
    Check.is("MOON, the last of a month", x.date(1, 28), "0/1/29");
    Check.is("MOON, the first of the next", x.date(1, 29), "0/2/1");
    Check.is("MOON, the last of a year", x.date(1, 353), "0/12/30");
    Check.is("MOON, the first of the next", x.date(1, 354), "1/1/1");
    Check.is("MOON, the 13th month", x.date(1, 1062), "2/13/1");
    Check.is("MOON, the day ahead of it", x.date(1, 1061), "2/12/30");
    Check.is("MOON, its last day", x.date(1, 1090), "2/13/29");
    Check.is("MOON, behind it", x.date(1, 1091), "3/1/1");
    Check.is("MOON, the least day", moon(5, 1, 0, 1, 0).date(0, -1000000), "-16667/5/1");
    Check.is("MOON, the greatest day", moon(5, 1, 0, 1, 0).date(0, 1000000), "16666/9/1");
    Check.is("MOON, the longest months", moon(60, 1, 0, 1, 0).date(0, 1000000), "1388/11/41");
  }

  // Promise 32: "another one, or the same"; also far outside the days of date()
  private static void turnedDates() {
    Moonwheels x = Houses.full();
    Check.is("the same", x.turned(0, 0, -3000, 1, 1), "-3000/1/1");
    Check.is("the same", x.turned(0, 0, 3000, 12, 31), "3000/12/31");
    Check.is("the same of the MOON", x.turned(1, 1, 2, 13, 29), "2/13/29");
    Check.is("there", x.turned(0, 1, 2, 11, 29), "2/13/1");
    Check.is("and back", x.turned(1, 0, 2, 13, 1), "2/11/29");
    Check.is("the day 0", x.turned(3, 2, 0, 1, 1), "0/1/1");
    Moonwheels far = moon(60, 1, 0, 1, 0);
    far.sun(20, 0, 1, 0, 20);
    far.moon(5, 1, 0, 1, 0);
    Check.is("far above", far.turned(0, 1, 3000, 12, 60), "108035/20/1");
    Check.is("far below", far.turned(0, 1, -3000, 1, 1), "-108000/1/1");
    Check.is("far above", far.turned(0, 2, 3000, 12, 60), "36011/12/5");
    Check.is("far below", far.turned(0, 2, -3000, 1, 1), "-36000/1/1");
  }

  // Promise 33: "(that goes on as today's both ways)", "the year 0 is ahead of 1, and -1 ahead of that"
  private static void civilDays() {
    Moonwheels x = new Moonwheels();
    Check.is("the day 0", x.civil(0), "1970-1-1");
    Check.is("the day ahead", x.civil(-1), "1969-12-31");
    Check.is("the last of February", x.civil(58), "1970-2-28");
    Check.is("March", x.civil(59), "1970-3-1");
    Check.is("the last of the year", x.civil(364), "1970-12-31");
    Check.is("the first of the next", x.civil(365), "1971-1-1");
    Check.is("February 29", x.civil(789), "1972-2-29");
    Check.is("2000 is a LEAP year", x.civil(11016), "2000-2-29");
    Check.is("2100 is none", x.civil(47540), "2100-2-28");
    Check.is("so March comes", x.civil(47541), "2100-3-1");
    Check.is("the year 1", x.civil(-719162), "1-1-1");
    Check.is("0 is ahead of 1", x.civil(-719163), "0-12-31");
    Check.is("0 is a LEAP year", x.civil(-719469), "0-2-29");
    Check.is("the first day of 0", x.civil(-719528), "0-1-1");
    Check.is("-1 is ahead of that", x.civil(-719529), "-1-12-31");
    Check.is("the least day", x.civil(-1000000), java("", -1000000));
    Check.is("the least day", x.civil(-1000000), "-768-2-4");
    Check.is("the greatest day", x.civil(1000000), java("", 1000000));
    Check.is("the greatest day", x.civil(1000000), "4707-11-29");
  }

  private static String java(String ahead, int day) {
    java.time.LocalDate due = java.time.LocalDate.ofEpochDay(day);
    return ahead + due.getYear() + "-" + due.getMonthValue() + "-" + due.getDayOfMonth();
  }

  // Promise 34: "year is not -700 to 4000, or there is no such date"
  private static void fromCivilArguments() {
    Moonwheels x = new Moonwheels();
    Check.is("the day 0", x.fromCivil(1970, 1, 1), 0);
    Check.is("the day ahead", x.fromCivil(1969, 12, 31), -1);
    Check.is("the least", x.fromCivil(-700, 1, 1), -975197);
    Check.is("the greatest", x.fromCivil(4000, 12, 31), 741807);
    Check.is("0-12-31", x.fromCivil(0, 12, 31), -719163);
    Check.is("1-1-1", x.fromCivil(1, 1, 1), -719162);
    Check.is("-1-12-31", x.fromCivil(-1, 12, 31), -719529);
    int[] lengths = {31, 28, 31, 30, 31, 30, 31, 31, 30, 31, 30, 31};
    for (Supplier<Moonwheels> house : List.of(EMPTY, FULL)) {
      Check.range("fromCivil year", BAD, -700, 4000, house, (y, v) -> y.fromCivil(v, 2, 28));
      Check.range("fromCivil month", BAD, 1, 12, house, (y, v) -> y.fromCivil(2000, v, 1));
      for (int m = 1; m <= 12; m++) {
        int month = m;
        int last = lengths[m - 1];
        Check.range("fromCivil day of " + m, BAD, 1, last, house, (y, v) -> y.fromCivil(1999, month, v));
      }
      for (int leap : new int[] {-400, -4, 0, 4, 1600, 1996, 2000, 2004, 2400, 4000}) {
        Check.range("LEAP year " + leap, BAD, 1, 29, house, (y, v) -> y.fromCivil(leap, 2, v));
      }
      for (int usual : new int[] {-700, -500, -100, -1, 1, 100, 1700, 1900, 2001, 2100, 3900}) {
        Check.range("no LEAP year " + usual, BAD, 1, 28, house, (y, v) -> y.fromCivil(usual, 2, v));
      }
    }
  }

  // Promise 35: "there is no such CALENDAR or BODY", then "year .., it has no such month, or week is not 0 to 6"
  private static void feastArguments() {
    Supplier<Moonwheels> alone = () -> sun(365, 1, 4, 0, 12);
    Check.refused("no BODY at all", GONE, alone, x -> x.feast(0, 0, 1, 0, 0));
    Check.refused("no CALENDAR at all", GONE, CalendarEdgesTest::bodyAlone, x -> x.feast(0, 0, 1, 0, 0));
    Check.range("feast body of 5", GONE, 0, 4, ALMOST, (x, v) -> x.feast(0, 0, 1, v, 0));
    Check.range("feast body of 6", GONE, 0, 5, FULL, (x, v) -> x.feast(0, 0, 1, v, 0));
    for (int body : new int[] {-1, 6}) {
      Check.refused("the BODY ahead of the year", GONE, FULL, x -> x.feast(0, 3001, 1, body, 0));
      Check.refused("the BODY ahead of the month", GONE, FULL, x -> x.feast(0, 0, 0, body, 0));
      Check.refused("the BODY ahead of the WEEK DAY", GONE, FULL, x -> x.feast(0, 0, 1, body, 7));
    }
    Check.range("feast week", BAD, 0, 6, FULL, (x, v) -> x.feast(0, 0, 1, 0, v));
    Check.range("feast month of the SUN", BAD, 1, 12, FULL, (x, v) -> x.feast(0, 0, v, 0, 0));
    Check.range("feast month of the MOON", BAD, 1, 12, FULL, (x, v) -> x.feast(1, 0, v, 0, 0));
    Check.range("feast month of a LEAP year", BAD, 1, 13, FULL, (x, v) -> x.feast(1, 2, v, 0, 0));
    Check.refused("all is wrong", BAD, FULL, x -> x.feast(0, 3001, 13, 0, 7));
  }

  private static Moonwheels bodyAlone() {
    Moonwheels x = new Moonwheels();
    x.body(3, 0, 0);
    return x;
  }

  // "from a date on the first day at which a BODY MEETS, then the first day behind that with a WEEK DAY"
  private static void feasts() {
    Moonwheels x = sun(365, 1, 4, 0, 12);
    x.body(10, 0, 9);
    x.body(10, 1, 9);
    // The day 0 is a Thursday, number 4.
    Check.is("the date itself MEETS; the next day", x.feast(0, 0, 1, 0, 5), 1);
    Check.is("its own WEEK DAY is a week behind it", x.feast(0, 0, 1, 0, 4), 7);
    Check.is("the last day of that week", x.feast(0, 0, 1, 0, 3), 6);
    Check.is("Sunday", x.feast(0, 0, 1, 0, 0), 3);
    Check.is("Saturday", x.feast(0, 0, 1, 0, 6), 2);
    Check.is("the day behind the date MEETS", x.feast(0, 0, 1, 1, 5), 8);
    Check.is("the day behind the date MEETS", x.feast(0, 0, 1, 1, 6), 2);
    Check.is("below 0: it MEETS on -360, a Monday", x.feast(0, -1, 1, 0, 1), -353);
    Check.is("and the next day", x.feast(0, -1, 1, 0, 2), -359);
    Check.is("and the last day of that week", x.feast(0, -1, 1, 0, 0), -354);
    Check.is("the SLIP does not count", x.feast(0, 0, 2, 0, 0), 31);
  }
}
