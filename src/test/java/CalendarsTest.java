import java.time.LocalDate;

/** Promises 24 to 35: calendars. */
public final class CalendarsTest {
  private static final Class<IllegalArgumentException> BAD = IllegalArgumentException.class;
  private static final Class<IllegalStateException> STATE = IllegalStateException.class;
  private static final Class<IndexOutOfBoundsException> GONE = IndexOutOfBoundsException.class;
  private static final int[] EXTREMES = {Integer.MIN_VALUE, Integer.MAX_VALUE};

  public static void main(String[] args) {
    tellingSuns();
    tellingMoons();
    years();
    wrongYears();
    suns();
    moons();
    extremes();
    civilDates();
    feasts();
    Check.end("CalendarsTest");
  }

  private static void tellingSuns() {
    Moonwheels x = new Moonwheels();
    int[][] bad = {{19, 0, 1, 0, 1}, {501, 0, 1, 0, 1}, {20, 0, 0, 0, 1}, {20, 0, 501, 0, 1}, {20, 1, 1, 0, 1},
        {20, -1, 1, 0, 1}, {20, 5, 5, 0, 1}, {20, 0, 5, 5, 1}, {20, 0, 5, -1, 1}, {20, 0, 1, 0, 0}, {20, 0, 1, 0, 21}};
    for (int[] c : bad) {
      Check.no("sun", x, BAD, () -> x.sun(c[0], c[1], c[2], c[3], c[4]));
    }
    for (int v : EXTREMES) {
      Check.no("sun", x, BAD, () -> x.sun(v, 0, 1, 0, 1));
      Check.no("sun", x, BAD, () -> x.sun(20, v, 1, 0, 1));
      Check.no("sun", x, BAD, () -> x.sun(20, 0, v, 0, 1));
      Check.no("sun", x, BAD, () -> x.sun(20, 0, 1, v, 1));
      Check.no("sun", x, BAD, () -> x.sun(20, 0, 1, 0, v));
    }
    Check.is("sun(20, 0, 1, 0, 20)", x.sun(20, 0, 1, 0, 20), 0);
    Check.is("sun(500, 499, 500, 499, 1)", x.sun(500, 499, 500, 499, 1), 1);
    Check.is("moon", x.moon(30, 1, 0, 1, 0), 2);
    Check.is("sun", x.sun(365, 1, 4, 0, 12), 3);
    Check.no("a fifth", x, STATE, () -> x.sun(365, 1, 4, 0, 12));
    Check.no("a bad fifth", x, BAD, () -> x.sun(365, 4, 4, 0, 12));
    Check.no("a fifth moon", x, STATE, () -> x.moon(30, 1, 0, 1, 0));
    Check.no("a bad fifth moon", x, BAD, () -> x.moon(30, 1, 1, 1, 0));
    Check.is("house(2)", x.house(2), 4);
    Check.is("undo", x.undo(), 3);
    Check.is("house(2)", x.house(2), 3);
    Check.no("3 is gone", x, GONE, () -> x.yearBegin(3, 0));
    Check.is("a fourth anew", x.sun(100, 0, 1, 0, 3), 3);
    Check.is("yearBegin(3, 3)", x.yearBegin(3, 3), 300);
  }

  private static void tellingMoons() {
    Moonwheels x = new Moonwheels();
    int[][] bad = {{30, 0, 0, 1, 0}, {30, -1, 0, 1, 0}, {50000, 10000, 0, 1, 0}, {4, 1, 0, 1, 0}, {61, 1, 0, 1, 0},
        {9, 2, 0, 1, 0}, {121, 2, 0, 1, 0}, {30, 1, 1, 1, 0}, {30, 1, -1, 1, 0}, {30, 1, 0, 0, 0}, {30, 1, 0, 501, 0},
        {30, 1, 0, 5, 5}, {30, 1, 0, 5, -1}};
    for (int[] c : bad) {
      Check.no("moon", x, BAD, () -> x.moon(c[0], c[1], c[2], c[3], c[4]));
    }
    for (int v : EXTREMES) {
      Check.no("moon", x, BAD, () -> x.moon(v, 1, 0, 1, 0));
      Check.no("moon", x, BAD, () -> x.moon(30, v, 0, 1, 0));
      Check.no("moon", x, BAD, () -> x.moon(30, 1, v, 1, 0));
      Check.no("moon", x, BAD, () -> x.moon(30, 1, 0, v, 0));
      Check.no("moon", x, BAD, () -> x.moon(30, 1, 0, 1, v));
    }
    Check.is("moon(49995, 9999, 0, 1, 0)", x.moon(49995, 9999, 0, 1, 0), 0);
    Check.is("moon(599940, 9999, 499, 500, 499)", x.moon(599940, 9999, 499, 500, 499), 1);
    Check.is("house(5)", x.house(5), 2);
    Check.is("yearBegin(0, 1)", x.yearBegin(0, 1), 60);
    Check.is("yearBegin(1, 1)", x.yearBegin(1, 1), 780);
  }

  private static void years() {
    Moonwheels x = new Moonwheels();
    x.sun(10 * 36 + 5, 1, 4, 0, 12);
    x.sun(365, 1, 4, 3, 12);
    x.moon(59, 2, 7, 19, 0);
    Check.is("yearBegin(0, 0)", x.yearBegin(0, 0), 0);
    Check.is("yearBegin(0, 4)", x.yearBegin(0, 4), 1461);
    Check.is("yearBegin(0, -1)", x.yearBegin(0, -1), -366);
    Check.is("yearBegin(1, 1)", x.yearBegin(1, 1), 366);
    Check.is("yearBegin(0, 3000)", x.yearBegin(0, 3000), 1095750);
    Check.is("yearBegin(0, -3000)", x.yearBegin(0, -3000), -1095750);
    Check.is("yearBegin(2, 19)", x.yearBegin(2, 19), 235 * 59 / 2);
    Check.is("isLeap(0, 3)", x.isLeap(0, 3), true);
    Check.is("isLeap(0, 0)", x.isLeap(0, 0), false);
    Check.is("isLeap(0, -1)", x.isLeap(0, -1), true);
    Check.is("isLeap(1, 0)", x.isLeap(1, 0), true);
    Check.is("isLeap(1, 3)", x.isLeap(1, 3), false);
    Check.is("isLeap(1, -4)", x.isLeap(1, -4), true);
    Check.is("isLeap(2, 2)", x.isLeap(2, 2), true);
    Check.is("isLeap(2, 3)", x.isLeap(2, 3), false);
    Check.is("leaps(0, 0, 0)", x.leaps(0, 0, 0), 0);
    Check.is("leaps(0, 3, 1)", x.leaps(0, 3, 1), 1);
    Check.is("leaps(0, 0, 3)", x.leaps(0, 0, 3), 0);
    Check.is("leaps(0, -3000, 1000)", x.leaps(0, -3000, 1000), 250);
    Check.is("leaps(2, 3000, 19)", x.leaps(2, 3000, 19), 7);
    Check.is("drift(0, 2)", x.drift(0, 2), "1/2");
    Check.is("drift(0, -1)", x.drift(0, -1), "3/4");
    Check.is("drift(0, 4)", x.drift(0, 4), "0/1");
    Check.is("drift(1, 0)", x.drift(1, 0), "3/4");
    Check.is("drift(2, 1)", x.drift(2, 1), "7/19");
  }

  private static void wrongYears() {
    Moonwheels x = new Moonwheels();
    x.sun(365, 1, 4, 0, 12);
    for (int year : new int[] {-3001, 3001, Integer.MIN_VALUE, Integer.MAX_VALUE}) {
      Check.no("yearBegin", x, BAD, () -> x.yearBegin(0, year));
      Check.no("isLeap", x, BAD, () -> x.isLeap(0, year));
      Check.no("leaps", x, BAD, () -> x.leaps(0, year, 1));
      Check.no("drift", x, BAD, () -> x.drift(0, year));
      Check.no("dayOf", x, BAD, () -> x.dayOf(0, year, 1, 1));
      Check.no("turned", x, BAD, () -> x.turned(0, 0, year, 1, 1));
    }
    for (int many : new int[] {-1, 1001, Integer.MIN_VALUE, Integer.MAX_VALUE}) {
      Check.no("leaps many", x, BAD, () -> x.leaps(0, 0, many));
    }
    for (int day : new int[] {-1000001, 1000001, Integer.MIN_VALUE, Integer.MAX_VALUE}) {
      Check.no("date", x, BAD, () -> x.date(0, day));
      Check.no("civil", x, BAD, () -> x.civil(day));
    }
    for (int calendar : new int[] {-1, 1, 4, Integer.MIN_VALUE, Integer.MAX_VALUE}) {
      Check.no("yearBegin", x, GONE, () -> x.yearBegin(calendar, 9999));
      Check.no("isLeap", x, GONE, () -> x.isLeap(calendar, 9999));
      Check.no("leaps", x, GONE, () -> x.leaps(calendar, 9999, -1));
      Check.no("drift", x, GONE, () -> x.drift(calendar, 9999));
      Check.no("dayOf", x, GONE, () -> x.dayOf(calendar, 9999, 0, 0));
      Check.no("date", x, GONE, () -> x.date(calendar, 1000001));
      Check.no("turned", x, GONE, () -> x.turned(calendar, 0, 9999, 0, 0));
      Check.no("turned to", x, GONE, () -> x.turned(0, calendar, 9999, 0, 0));
    }
  }

  private static void suns() {
    Moonwheels x = new Moonwheels();
    x.sun(365, 1, 4, 0, 12);
    // 365 * k / 12: 0 30 60 91 121 152 182 212 243 273 304 334
    Check.is("dayOf(0, 0, 1, 1)", x.dayOf(0, 0, 1, 1), 0);
    Check.is("dayOf(0, 0, 2, 1)", x.dayOf(0, 0, 2, 1), 30);
    Check.is("dayOf(0, 0, 4, 1)", x.dayOf(0, 0, 4, 1), 91);
    Check.is("dayOf(0, 0, 12, 31)", x.dayOf(0, 0, 12, 31), 364);
    // In a LEAP year 366 * k / 12: 30 and a half
    Check.is("dayOf(0, 3, 3, 1)", x.dayOf(0, 3, 3, 1), 1095 + 61);
    Check.is("date(0, 0)", x.date(0, 0), "0/1/1");
    Check.is("date(0, -1)", x.date(0, -1), "-1/12/31");
    Check.is("date(0, -366)", x.date(0, -366), "-1/1/1");
    Check.is("date(0, 364)", x.date(0, 364), "0/12/31");
    Check.is("date(0, 365)", x.date(0, 365), "1/1/1");
    Check.is("date(0, 1460)", x.date(0, 1460), "3/12/31");
    Check.is("turned itself", x.turned(0, 0, 3, 12, 31), "3/12/31");
    int[][] bad = {{0, 0, 1}, {0, 13, 1}, {0, -1, 1}, {0, 1, 0}, {0, 1, 31}, {0, 4, 31}, {0, 12, 32}, {0, 1, -1},
        {0, Integer.MAX_VALUE, 1}, {0, Integer.MIN_VALUE, 1}, {0, 1, Integer.MAX_VALUE}, {0, 1, Integer.MIN_VALUE}};
    for (int[] d : bad) {
      Check.no("dayOf", x, BAD, () -> x.dayOf(0, d[0], d[1], d[2]));
      Check.no("turned", x, BAD, () -> x.turned(0, 0, d[0], d[1], d[2]));
    }
    x.sun(20, 0, 1, 0, 20);
    Check.is("months of a day", x.dayOf(1, 1, 7, 1), 26);
    Check.is("date(1, 26)", x.date(1, 26), "1/7/1");
    Check.no("no second day", x, BAD, () -> x.dayOf(1, 1, 7, 2));
    x.sun(500, 0, 1, 0, 1);
    Check.is("one month", x.dayOf(2, -1, 1, 500), -1);
    Check.is("date(2, -1)", x.date(2, -1), "-1/1/500");
    x.sun(20, 1, 2, 0, 20);
    Check.is("21 days on 20 months", x.date(3, 20 + 19), "1/20/1");
    Check.is("21 days on 20 months", x.date(3, 20 + 20), "1/20/2");
    for (int day = -800; day < 800; day += 13) {
      Check.is("date(2, " + day + ")", x.date(2, day), Math.floorDiv(day, 500) + "/1/" + (Math.floorMod(day, 500) + 1));
    }
  }

  private static void moons() {
    Moonwheels x = new Moonwheels();
    x.moon(59, 2, 7, 19, 0);
    // Months begin at 0 29 59 88 118 ..; the year 2 has 13.
    Check.is("dayOf(0, 0, 2, 1)", x.dayOf(0, 0, 2, 1), 29);
    Check.is("dayOf(0, 0, 2, 30)", x.dayOf(0, 0, 2, 30), 58);
    Check.is("dayOf(0, 2, 13, 1)", x.dayOf(0, 2, 13, 1), 36 * 59 / 2);
    Check.is("dayOf(0, -1, 1, 1)", x.dayOf(0, -1, 1, 1), x.yearBegin(0, -1));
    Check.is("yearBegin(0, -1)", x.yearBegin(0, -1), Math.floorDiv(-13 * 59, 2));
    Check.is("date(0, 58)", x.date(0, 58), "0/2/30");
    Check.is("date(0, 59)", x.date(0, 59), "0/3/1");
    Check.is("date(0, 28)", x.date(0, 28), "0/1/29");
    Check.is("date(0, -1)", x.date(0, -1), "-1/13/30");
    Check.is("date(0, 1062)", x.date(0, 36 * 59 / 2), "2/13/1");
    int[][] bad = {{0, 1, 30}, {0, 2, 31}, {0, 13, 1}, {2, 14, 1}, {0, 0, 1}, {0, 1, 0}, {3, 13, 1}};
    for (int[] d : bad) {
      Check.no("dayOf", x, BAD, () -> x.dayOf(0, d[0], d[1], d[2]));
      Check.no("turned", x, BAD, () -> x.turned(0, 0, d[0], d[1], d[2]));
    }
    x.sun(365, 1, 4, 0, 12);
    Check.is("turned(0, 1, ..)", x.turned(0, 1, 2, 13, 1), "2/11/29");
    Check.is("turned(1, 0, ..)", x.turned(1, 0, 2, 11, 29), "2/13/1");
  }

  /** Days far beyond what date() takes come out of turned(). */
  private static void extremes() {
    Moonwheels x = new Moonwheels();
    x.moon(599940, 9999, 499, 500, 499);
    x.moon(5, 1, 0, 1, 0);
    x.sun(20, 0, 1, 0, 20);
    x.sun(500, 499, 500, 499, 20);
    Check.is("yearBegin(0, 3000)", x.yearBegin(0, 3000), 60 * (36000 + 2994));
    Check.is("turned(0, 1, 3000, 1, 1)", x.turned(0, 1, 3000, 1, 1), "38994/1/1");
    Check.is("turned(0, 2, 3000, 12, 60)", x.turned(0, 2, 3000, 12, 60), (60 * 39006 - 1) / 20 + "/20/1");
    Check.is("turned(0, 2, -3000, 1, 1)", x.turned(0, 2, -3000, 1, 1), -3 * 38994 + "/1/1");
    Check.is("turned(3, 1, 3000, 1, 1)", x.turned(3, 1, 3000, 1, 1), "25049/11/5");
    Check.is("date(1, 1000000)", x.date(1, 1000000), "16666/9/1");
    Check.is("date(2, -1000000)", x.date(2, -1000000), "-50000/1/1");
    Check.is("isSound", x.isSound(), true);
  }

  private static void civilDates() {
    Moonwheels x = new Moonwheels();
    Check.is("civil(0)", x.civil(0), "1970-1-1");
    Check.is("civil(-719528)", x.civil(-719528), "0-1-1");
    Check.is("civil(-719529)", x.civil(-719529), "-1-12-31");
    Check.is("fromCivil(0, 2, 29)", x.fromCivil(0, 2, 29), -719528 + 59);
    Check.is("fromCivil(-700, 1, 1)", x.fromCivil(-700, 1, 1), (int) LocalDate.of(-700, 1, 1).toEpochDay());
    Check.is("fromCivil(4000, 2, 29)", x.fromCivil(4000, 2, 29), (int) LocalDate.of(4000, 2, 29).toEpochDay());
    int[][] bad = {{-701, 1, 1}, {4001, 1, 1}, {2000, 0, 1}, {2000, 13, 1}, {2000, 1, 0}, {2000, 1, 32}, {2000, 2, 30},
        {2001, 2, 29}, {2100, 2, 29}, {2000, 4, 31}, {2000, 6, 31}, {2000, 9, 31}, {2000, 11, 31}, {-100, 2, 29},
        {Integer.MIN_VALUE, 1, 1}, {2000, Integer.MAX_VALUE, 1}, {2000, Integer.MIN_VALUE, 1},
        {2000, 1, Integer.MIN_VALUE}, {2000, 1, Integer.MAX_VALUE}};
    for (int[] d : bad) {
      Check.no("fromCivil", x, BAD, () -> x.fromCivil(d[0], d[1], d[2]));
    }
    for (int day = -1000000; day <= 1000000; day += 400) {
      Moonwheels y = new Moonwheels();
      for (int more = 0; more < 400 && day + more <= 1000000; more += 7) {
        LocalDate due = LocalDate.ofEpochDay(day + more);
        Check.is("civil(" + (day + more) + ")", y.civil(day + more),
            due.getYear() + "-" + due.getMonthValue() + "-" + due.getDayOfMonth());
      }
    }
    for (int year = -700; year <= 4000; year += 100) {
      for (int y = year; y < year + 8 && y <= 4000; y++) {
        Moonwheels z = new Moonwheels();
        for (int month = 1; month <= 12; month++) {
          LocalDate first = LocalDate.of(y, month, 1);
          int last = first.lengthOfMonth();
          int begin = (int) first.toEpochDay();
          Check.is("fromCivil", z.fromCivil(y, month, 1), begin);
          Check.is("fromCivil", z.fromCivil(y, month, last), begin + last - 1);
          Check.is("civil", z.civil(begin), begin > 1000000 ? "" : y + "-" + month + "-1");
          Check.is("civil", z.civil(begin + last - 1), y + "-" + month + "-" + last);
        }
      }
    }
  }

  private static void feasts() {
    Moonwheels x = new Moonwheels();
    Check.no("no CALENDAR", x, GONE, () -> x.feast(0, 9999, 1, 0, 0));
    x.sun(365, 1, 4, 0, 12);
    Check.no("no BODY", x, GONE, () -> x.feast(0, 9999, 1, 0, 0));
    x.body(10, 0, 0);
    Check.no("no CALENDAR 1", x, GONE, () -> x.feast(1, 0, 1, 0, 7));
    Check.no("no BODY 1", x, GONE, () -> x.feast(0, 0, 1, 1, 7));
    int[][] bad = {{-3001, 1, 0}, {3001, 1, 0}, {0, 0, 0}, {0, 13, 0}, {0, 1, -1}, {0, 1, 7}, {Integer.MIN_VALUE, 1, 0},
        {0, Integer.MAX_VALUE, 0}, {0, 1, Integer.MIN_VALUE}, {0, 1, Integer.MAX_VALUE}};
    for (int[] f : bad) {
      Check.no("feast", x, BAD, () -> x.feast(0, f[0], f[1], 0, f[2]));
    }
    // The day 0 is a Thursday, 4; the BODY MEETS on it, and the feast is behind it.
    int[] due = {3, 4, 5, 6, 7, 1, 2};
    for (int week = 0; week <= 6; week++) {
      Check.is("feast(0, 0, 1, 0, " + week + ")", x.feast(0, 0, 1, 0, week), due[week]);
    }
    Check.is("feast(0, 0, 4, 0, 0)", x.feast(0, 0, 4, 0, 0), 101);
    Check.is("feast(0, 0, 2, 0, 6)", x.feast(0, 0, 2, 0, 6), 37);
    Check.is("feast(0, -1, 1, 0, 4)", x.feast(0, -1, 1, 0, 4), -357);
    x.moon(60, 1, 0, 1, 0);
    x.retell(0, 5000, 1);
    Check.is("a far feast", x.feast(1, 3000, 12, 0, 4), 2165002 - 2 + (int) Math.floorMod(4L - (2165002 + 2), 7L));
  }
}
