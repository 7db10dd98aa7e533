import java.util.ArrayList;

/** A house of rounds that come again: fractions, wheels, bodies, calendars, sky, tides, rising, marks. */
public final class Moonwheels {
  private static final int NONE = -1;
  private static final int ASKED = 9999;
  private static final int REACH = 100000;
  private static final int DAY_REACH = 1000000;
  private static final int YEAR_REACH = 3000;
  private static final int MOST_CALENDARS = 4;
  private static final int PIECES = 12;

  private static final int CHANGE_CUT = 0;
  private static final int CHANGE_BODY = 1;
  private static final int CHANGE_RETELL = 2;
  private static final int CHANGE_CALENDAR = 3;
  private static final int CHANGE_SKY = 4;
  private static final int CHANGE_SWING = 5;
  private static final int CHANGE_SHARE = 6;
  private static final int CHANGE_PORT = 7;
  private static final int CHANGE_RISE = 8;
  private static final int CHANGE_PIECES = 9;
  private static final int CHANGE_LAY = 10;

  // One builder for all texts: a run's room is never swept, so a new one a call would be wasted.
  private final StringBuilder text;
  private final Fractions fractions;
  private final Wheels wheels;
  private final Bodies bodies;
  private final ArrayList<Calendar> calendars;
  private final Sky heaven;
  private final Tides tides;
  private final int[] risingNumbers;
  private int pieceDays;
  private final Marks notes;
  private final Log log;
  private int knocks;

  public Moonwheels() {
    text = new StringBuilder();
    fractions = new Fractions();
    wheels = new Wheels();
    bodies = new Bodies();
    calendars = new ArrayList<Calendar>();
    heaven = new Sky();
    tides = new Tides();
    risingNumbers = new int[PIECES];
    pieceDays = 30;
    notes = new Marks();
    log = new Log();
    knocks = 0;
  }

  // ---- what calls must fulfil

  private static void demand(boolean isRight) {
    if (!isRight) {
      throw new IllegalArgumentException();
    }
  }

  private static void demandThere(boolean isThere) {
    if (!isThere) {
      throw new IndexOutOfBoundsException();
    }
  }

  private static void demandState(boolean isRight) {
    if (!isRight) {
      throw new IllegalStateException();
    }
  }

  private static boolean isWithin(int value, int least, int most) {
    return value >= least && value <= most;
  }

  private static void demandFraction(int top, int bottom) {
    demand(isWithin(top, 1, ASKED) && isWithin(bottom, 1, ASKED));
  }

  private static void demandMoment(int moment) {
    demand(isWithin(moment, -REACH, REACH));
  }

  private static void demandYear(int year) {
    demand(isWithin(year, -YEAR_REACH, YEAR_REACH));
  }

  private void demandBody(int body) {
    demandThere(body >= 0 && body < bodies.count);
  }

  private void demandSet(int set) {
    demand(set > 0 && set <= bodies.allOfThem());
  }

  private Calendar calendarAt(int calendar) {
    if (calendar < 0 || calendar >= calendars.size()) {
      throw new IndexOutOfBoundsException();
    }
    return calendars.get(calendar);
  }

  private StringBuilder freshText() {
    text.setLength(0);
    return text;
  }

  // ---- fractions

  public String parts(int top, int bottom) throws IllegalArgumentException {
    demandFraction(top, bottom);
    StringBuilder out = freshText();
    Fractions.putParts(out, top, bottom);
    return out.toString();
  }

  public String convergent(int top, int bottom, int k) throws IllegalArgumentException {
    demandFraction(top, bottom);
    demand(k >= 0);
    StringBuilder out = freshText();
    Fractions.putConvergent(out, top, bottom, k);
    return out.toString();
  }

  public String middles(int top, int bottom) throws IllegalArgumentException {
    demandFraction(top, bottom);
    StringBuilder out = freshText();
    Fractions.putMiddles(out, top, bottom);
    return out.toString();
  }

  public String near(int top, int bottom, int k) throws IllegalArgumentException {
    demandFraction(top, bottom);
    demand(k >= 0);
    fractions.seekNear(top, bottom, bottom, k);
    return fractions.nearCount > k ? foundFraction() : "-";
  }

  public int nears(int top, int bottom) throws IllegalArgumentException {
    demandFraction(top, bottom);
    fractions.seekNear(top, bottom, bottom, ASKED);
    return fractions.nearCount;
  }

  public String nearest(int top, int bottom, int most) throws IllegalArgumentException {
    demandFraction(top, bottom);
    demand(isWithin(most, 1, ASKED));
    fractions.seekNear(top, bottom, most, ASKED);
    return foundFraction();
  }

  public String below(int top, int bottom, int most) throws IllegalArgumentException {
    demandFraction(top, bottom);
    demand(isWithin(most, 1, ASKED));
    fractions.seekUnder(top, bottom, most);
    return foundFraction();
  }

  public String above(int top, int bottom, int most) throws IllegalArgumentException {
    demandFraction(top, bottom);
    demand(isWithin(most, 1, ASKED));
    fractions.seekOver(top, bottom, most);
    return foundFraction();
  }

  private String foundFraction() {
    return fractionText(fractions.upper, fractions.lower);
  }

  private String fractionText(long upper, long lower) {
    StringBuilder out = freshText();
    Numbers.putFraction(out, upper, lower);
    return out.toString();
  }

  private String digits(long value) {
    StringBuilder out = freshText();
    Numbers.putLong(out, value);
    return out.toString();
  }

  // ---- wheels

  public int cut(int teeth) throws IllegalArgumentException, IllegalStateException {
    demand(isWithin(teeth, 6, 120));
    if (!wheels.isThere(teeth)) {
      demandState(wheels.count < Wheels.MOST);
      wheels.insert(teeth);
      log.keep(CHANGE_CUT, teeth, 0, 0, 0);
    }
    return wheels.count;
  }

  public String train(int top, int bottom, int pairs) throws IllegalArgumentException, IllegalStateException {
    seekTrain(top, bottom, pairs);
    StringBuilder out = freshText();
    wheels.putTrain(out, pairs);
    return out.toString();
  }

  public String trainError(int top, int bottom, int pairs) throws IllegalArgumentException, IllegalStateException {
    seekTrain(top, bottom, pairs);
    return fractionText(wheels.bestError, wheels.bestLower * bottom);
  }

  private void seekTrain(int top, int bottom, int pairs) {
    demandFraction(top, bottom);
    demand(isWithin(pairs, 1, 3));
    demandState(wheels.count > 0);
    wheels.seek(top, bottom, pairs);
  }

  public String planets(int sun, int ring, int held) throws IllegalArgumentException {
    demand(isWithin(sun, 6, 120) && isWithin(ring, 6, 400) && isWithin(held, 0, 2));
    demand(ring > sun && (ring - sun) % 2 == 0);
    if (held == 0) {
      return fractionText(sun, sun + ring);
    }
    if (held == 1) {
      return fractionText(ring, sun + ring);
    }
    return fractionText(-sun, ring);
  }

  // ---- bodies

  public int body(int round, int begin, int slip) throws IllegalArgumentException, IllegalStateException {
    demand(isRound(round, begin) && isWithin(slip, 0, round - 1));
    demandState(bodies.count < Bodies.MOST);
    bodies.count++;
    bodies.tell(bodies.count - 1, round, begin, slip);
    log.keep(CHANGE_BODY, 0, 0, 0, 0);
    return bodies.count - 1;
  }

  private static boolean isRound(int round, int begin) {
    return isWithin(round, 1, 5000) && isWithin(begin, -10000, 10000);
  }

  public int retell(int body, int round, int begin) throws IndexOutOfBoundsException, IllegalArgumentException {
    demandBody(body);
    demand(isRound(round, begin));
    int before = bodies.roundOf(body);
    int slip = bodies.slipOf(body);
    log.keep(CHANGE_RETELL, body, before, bodies.beginOf(body), slip);
    bodies.tell(body, round, begin, Math.min(slip, round - 1));
    return before;
  }

  public int nextOf(int body, int from) throws IndexOutOfBoundsException, IllegalArgumentException {
    demandBody(body);
    demandMoment(from);
    return (int) bodies.meetsFrom(body, from);
  }

  public int aheadOf(int body, int from) throws IndexOutOfBoundsException, IllegalArgumentException {
    demandBody(body);
    demandMoment(from);
    return (int) bodies.meetsAhead(body, from);
  }

  public int many(int body, int from, int to) throws IndexOutOfBoundsException, IllegalArgumentException {
    demandBody(body);
    demandMoment(from);
    demandMoment(to);
    return bodies.howOften(body, from, to);
  }

  public String meet(int set, int from) throws IllegalArgumentException {
    demandSet(set);
    demandMoment(from);
    StringBuilder out = freshText();
    bodies.putMeeting(out, set, from);
    return out.toString();
  }

  public String again(int set) throws IllegalArgumentException {
    demandSet(set);
    StringBuilder out = freshText();
    bodies.putAgain(out, set);
    return out.toString();
  }

  public String window(int set, int from) throws IllegalArgumentException {
    demandSet(set);
    demandMoment(from);
    for (int t = from; t <= from + 3000; t++) {
      if (bodies.areNear(set, t)) {
        return digits(t);
      }
    }
    return "-";
  }

  public String event(int from, int k) throws IllegalArgumentException {
    demandMoment(from);
    demand(isWithin(k, 0, 30));
    StringBuilder out = freshText();
    bodies.putEvent(out, from, k);
    return out.toString();
  }

  public int inverse(int a, int n) throws IllegalArgumentException {
    demand(isWithin(a, -ASKED, ASKED) && isWithin(n, 1, ASKED));
    return Numbers.inverseOf(a, n);
  }

  // ---- calendars

  public int sun(int days, int extra, int cycle, int shift, int months)
      throws IllegalArgumentException, IllegalStateException {
    demand(isWithin(days, 20, 500) && isCycle(extra, cycle, shift) && isWithin(months, 1, 20));
    demandState(calendars.size() < MOST_CALENDARS);
    return addCalendar(new Calendar(days, extra, cycle, shift, months, 0, 0));
  }

  public int moon(int top, int bottom, int extra, int cycle, int shift)
      throws IllegalArgumentException, IllegalStateException {
    demand(isWithin(bottom, 1, ASKED) && isWithin(top, 5 * bottom, 60 * bottom) && isCycle(extra, cycle, shift));
    demandState(calendars.size() < MOST_CALENDARS);
    return addCalendar(new Calendar(12, extra, cycle, shift, 0, top, bottom));
  }

  private static boolean isCycle(int extra, int cycle, int shift) {
    return isWithin(cycle, 1, 500) && isWithin(extra, 0, cycle - 1) && isWithin(shift, 0, cycle - 1);
  }

  private int addCalendar(Calendar calendar) {
    calendars.add(calendar);
    log.keep(CHANGE_CALENDAR, 0, 0, 0, 0);
    return calendars.size() - 1;
  }

  public int yearBegin(int calendar, int year) throws IndexOutOfBoundsException, IllegalArgumentException {
    Calendar told = calendarAt(calendar);
    demandYear(year);
    return (int) told.yearStart(year);
  }

  public boolean isLeap(int calendar, int year) throws IndexOutOfBoundsException, IllegalArgumentException {
    Calendar told = calendarAt(calendar);
    demandYear(year);
    return told.isLong(year);
  }

  public int leaps(int calendar, int year, int many) throws IndexOutOfBoundsException, IllegalArgumentException {
    Calendar told = calendarAt(calendar);
    demandYear(year);
    demand(isWithin(many, 0, 1000));
    return told.longYears(year, many);
  }

  public String drift(int calendar, int year) throws IndexOutOfBoundsException, IllegalArgumentException {
    Calendar told = calendarAt(calendar);
    demandYear(year);
    return fractionText(told.driftUpper(year), told.cycle);
  }

  public int dayOf(int calendar, int year, int month, int day)
      throws IndexOutOfBoundsException, IllegalArgumentException {
    Calendar told = calendarAt(calendar);
    return (int) dayBy(told, year, month, day);
  }

  public String date(int calendar, int day) throws IndexOutOfBoundsException, IllegalArgumentException {
    Calendar told = calendarAt(calendar);
    demand(isWithin(day, -DAY_REACH, DAY_REACH));
    return dateBy(told, day);
  }

  public String turned(int calendar, int other, int year, int month, int day)
      throws IndexOutOfBoundsException, IllegalArgumentException {
    Calendar told = calendarAt(calendar);
    Calendar second = calendarAt(other);
    return dateBy(second, dayBy(told, year, month, day));
  }

  private static long dayBy(Calendar told, int year, int month, int day) {
    demandYear(year);
    demand(isWithin(month, 1, told.monthsIn(year)));
    demand(isWithin(day, 1, told.monthDays(year, month)));
    return told.monthStart(year, month) + day - 1;
  }

  private String dateBy(Calendar told, long day) {
    StringBuilder out = freshText();
    told.putDate(out, day);
    return out.toString();
  }

  public String civil(int day) throws IllegalArgumentException {
    demand(isWithin(day, -DAY_REACH, DAY_REACH));
    StringBuilder out = freshText();
    Civil.putDate(out, day);
    return out.toString();
  }

  public int fromCivil(int year, int month, int day) throws IllegalArgumentException {
    demand(isWithin(year, -700, 4000) && isWithin(month, 1, 12));
    demand(isWithin(day, 1, Civil.monthDays(year, month)));
    return Civil.dayNumber(year, month, day);
  }

  public int feast(int calendar, int year, int month, int body, int week)
      throws IndexOutOfBoundsException, IllegalArgumentException {
    Calendar told = calendarAt(calendar);
    demandBody(body);
    long first = dayBy(told, year, month, 1);
    demand(isWithin(week, 0, 6));
    long behind = bodies.meetsFrom(body, first) + 1;
    return (int) (behind + Numbers.rest(week - (behind + 4), 7));
  }

  // ---- sky, tides, rising, marks

  public int sky(int sun, int moon, int knot, int window) throws IllegalArgumentException {
    demand(isWithin(sun, 1, 1000) && isWithin(moon, sun + 1, 1799));
    demand(isWithin(knot, -1000, 1000) && isWithin(window, 0, 900));
    log.keep(CHANGE_SKY, heaven.sunSteps, heaven.moonSteps, heaven.knotSteps, heaven.slack);
    heaven.tell(sun, moon, knot, window);
    return heaven.wholeRound();
  }

  public String eclipse(int from) throws IllegalArgumentException, IllegalStateException {
    demandMoment(from);
    demandState(heaven.isTold());
    int round = heaven.wholeRound();
    for (int i = 0; i < round; i++) {
      if (heaven.isDark(from + i)) {
        return digits(from + i);
      }
    }
    return "-";
  }

  public int eclipses(int from, int many) throws IllegalArgumentException, IllegalStateException {
    demandMoment(from);
    demand(isWithin(many, 0, 5000));
    demandState(heaven.isTold());
    return heaven.darkDays(from, many);
  }

  public String skySlip(int days) throws IllegalArgumentException, IllegalStateException {
    demand(isWithin(days, 0, REACH));
    demandState(heaven.isTold());
    StringBuilder out = freshText();
    out.append(heaven.moonPlace(days));
    out.append(' ');
    out.append(heaven.knotPlace(days));
    return out.toString();
  }

  public int swing(int round, int begin) throws IllegalArgumentException, IllegalStateException {
    demand(isWithin(round, 2, 12) && isWithin(begin, -1000, 1000));
    demandState(tides.count < Tides.MOST);
    tides.insert(round, begin);
    log.keep(CHANGE_SWING, 0, 0, 0, 0);
    return tides.count - 1;
  }

  public int share(int swing, int k, int value) throws IndexOutOfBoundsException, IllegalArgumentException {
    demandThere(swing >= 0 && swing < tides.count && k >= 0 && k < tides.roundOf(swing));
    demand(isWithin(value, -99, 99));
    int before = tides.shareOf(swing, k);
    log.keep(CHANGE_SHARE, swing, k, before, 0);
    tides.putShare(swing, k, value);
    return before;
  }

  public int port(int delay) throws IllegalArgumentException {
    demand(isWithin(delay, -500, 500));
    int before = tides.delay;
    log.keep(CHANGE_PORT, before, 0, 0, 0);
    tides.delay = delay;
    return before;
  }

  public int height(int t) throws IllegalArgumentException {
    demandMoment(t);
    return tides.level(t);
  }

  public String tide(int from, boolean isLow) throws IllegalArgumentException {
    demandMoment(from);
    StringBuilder out = freshText();
    tides.putTurn(out, from, isLow ? -1 : 1);
    return out.toString();
  }

  public String table(int from, int many) throws IllegalArgumentException {
    demandMoment(from);
    demand(isWithin(many, 1, 9));
    StringBuilder out = freshText();
    tides.putTable(out, from, many);
    return out.toString();
  }

  public int tideRound() {
    return tides.wholeRound();
  }

  public int rise(int k, int value) throws IndexOutOfBoundsException, IllegalArgumentException {
    demandThere(k >= 0 && k < PIECES);
    demand(isWithin(value, -9999, 9999));
    int before = Numbers.at(risingNumbers, k);
    log.keep(CHANGE_RISE, k, before, 0, 0);
    Numbers.put(risingNumbers, k, value);
    return before;
  }

  public int pieces(int days) throws IllegalArgumentException {
    demand(isWithin(days, 1, 60));
    int before = pieceDays;
    log.keep(CHANGE_PIECES, before, 0, 0, 0);
    pieceDays = days;
    return before;
  }

  public int rising(int day) throws IllegalArgumentException {
    demandMoment(day);
    return risingOn(day);
  }

  private int risingOn(int day) {
    int within = Numbers.rest(day, PIECES * pieceDays);
    int piece = (int) Numbers.floor(within, pieceDays);
    int into = Numbers.rest(within, pieceDays);
    int first = Numbers.at(risingNumbers, piece);
    int second = Numbers.at(risingNumbers, (piece + 1) % PIECES);
    return first + (int) Numbers.floor((long) (second - first) * into, pieceDays);
  }

  public int lay(int moment, int note) throws IllegalArgumentException, IllegalStateException {
    demandMoment(moment);
    demand(isWithin(note, NONE, 99));
    int before = notes.noteOn(moment);
    demandState(note == NONE || before != NONE || notes.count < Marks.MOST);
    if (note != NONE || before != NONE) {
      notes.place(moment, note);
      log.keep(CHANGE_LAY, moment, before, 0, 0);
    }
    return before;
  }

  public String marks(int from, int to) throws IllegalArgumentException {
    demandMoment(from);
    demandMoment(to);
    StringBuilder out = freshText();
    notes.putRow(out, from, to);
    return out.toString();
  }

  // ---- the house

  public int undo() throws IllegalStateException {
    demandState(log.count > 0);
    takeBack(log.cell(0), log.cell(1), log.cell(2), log.cell(3), log.cell(4));
    log.drop();
    return log.count;
  }

  private void takeBack(int kind, int a, int b, int c, int d) {
    switch (kind) {
      case CHANGE_CUT: wheels.remove(a); break;
      case CHANGE_BODY: bodies.count--; break;
      case CHANGE_RETELL: bodies.tell(a, b, c, d); break;
      case CHANGE_CALENDAR: dropCalendar(); break;
      case CHANGE_SKY: heaven.tell(a, b, c, d); break;
      case CHANGE_SWING: tides.count--; break;
      case CHANGE_SHARE: tides.putShare(a, b, c); break;
      case CHANGE_PORT: tides.delay = a; break;
      case CHANGE_RISE: Numbers.put(risingNumbers, a, b); break;
      case CHANGE_PIECES: pieceDays = a; break;
      case CHANGE_LAY: notes.place(a, b); break;
      default: break;
    }
  }

  private void dropCalendar() {
    if (!calendars.isEmpty()) {
      calendars.remove(calendars.size() - 1);
    }
  }

  public int house(int what) throws IllegalArgumentException {
    demand(isWithin(what, 0, 6));
    return counted(what);
  }

  private int counted(int what) {
    switch (what) {
      case 0: return wheels.count;
      case 1: return bodies.count;
      case 2: return calendars.size();
      case 3: return tides.count;
      case 4: return notes.count;
      case 5: return log.count;
      default: return knocks;
    }
  }

  public int knock() {
    knocks++;
    return knocks;
  }

  public boolean isSound() {
    for (int i = 0; i < calendars.size(); i++) {
      Calendar told = calendars.get(i);
      for (int year = -20; year <= 20; year++) {
        if (!told.isYearSound(year)) {
          return false;
        }
      }
    }
    return bodies.areSound() && heaven.isRoundSound() && tides.isRoundSound();
  }

  public long digest() {
    long d = 6602;
    for (int what = 0; what <= 6; what++) {
      d = mixed(d, counted(what));
    }
    d = mixedBodies(d);
    for (int i = 0; i < calendars.size(); i++) {
      d = mixedCalendar(d, calendars.get(i));
    }
    if (heaven.isTold()) {
      d = mixed(d, heaven.darkDays(0, 1000));
    }
    d = mixed(d, tides.wholeRound());
    for (int t = 0; t <= 11; t++) {
      d = mixed(d, tides.level(t));
    }
    for (int day = 0; day <= 360; day += 45) {
      d = mixed(d, risingOn(day));
    }
    notes.putRow(freshText(), -REACH, REACH);
    d = mixedText(d);
    return mixed(d, isSound() ? 1 : 0);
  }

  private static long mixed(long d, long value) {
    return d * 31 + value;
  }

  private long mixedText(long d) {
    long mix = d;
    for (int i = 0; i < text.length(); i++) {
      mix = mixed(mix, text.charAt(i));
    }
    return mix;
  }

  private long mixedBodies(long d) {
    long mix = d;
    for (int i = 0; i < bodies.count; i++) {
      mix = mixed(mix, bodies.meetsFrom(i, 0));
      mix = mixed(mix, bodies.meetsAhead(i, 0));
    }
    if (bodies.count > 0) {
      bodies.putAgain(freshText(), bodies.allOfThem());
      mix = mixedText(mix);
      bodies.putMeeting(freshText(), bodies.allOfThem(), 0);
      mix = mixedText(mix);
    }
    return mix;
  }

  private long mixedCalendar(long d, Calendar told) {
    long mix = d;
    for (int year = -50; year <= 50; year += 50) {
      mix = mixed(mix, told.yearStart(year));
      mix = mixed(mix, told.longYears(year, 100));
    }
    for (int day = -1000; day <= 1000; day += 1000) {
      told.putDate(freshText(), day);
      mix = mixedText(mix);
    }
    return mix;
  }

  /** Arithmetic and rows that look at divisors and indexes before they use them. */
  private static final class Numbers {
    static int at(int[] row, int i) {
      return i >= 0 && i < row.length ? row[i] : 0;
    }

    static void put(int[] row, int i, int value) {
      if (i >= 0 && i < row.length) {
        row[i] = value;
      }
    }

    static long floor(long a, long n) {
      if (n <= 0) {
        return 0;
      }
      return a % n < 0 ? a / n - 1 : a / n;
    }

    static int rest(long a, int n) {
      if (n <= 0) {
        return 0;
      }
      int left = (int) (a % n);
      return left < 0 ? left + n : left;
    }

    /** Of two numbers that are not below 0. */
    static long gcd(long a, long b) {
      long high = a;
      long low = b;
      for (int step = 0; step < 100 && low > 0; step++) {
        long left = high % low;
        high = low;
        low = left;
      }
      return high;
    }

    static int lcm(int a, int b) {
      return (int) floor((long) a * b, gcd(a, b));
    }

    static int inverseOf(long a, int n) {
      long high = n;
      long low = rest(a, n);
      long highFactor = 0;
      long lowFactor = 1;
      for (int step = 0; step < 100 && low > 0; step++) {
        long quotient = high / low;
        long left = high - quotient * low;
        high = low;
        low = left;
        long factor = highFactor - quotient * lowFactor;
        highFactor = lowFactor;
        lowFactor = factor;
      }
      return high == 1 ? rest(highFactor, n) : NONE;
    }

    static void putFraction(StringBuilder out, long upper, long lower) {
      long common = gcd(Math.abs(upper), lower);
      putLong(out, floor(upper, common));
      out.append('/');
      putLong(out, floor(lower, common));
    }

    static void putLong(StringBuilder out, long value) {
      if (value < 0) {
        out.append('-');
      }
      long left = Math.abs(value);
      long place = 1;
      for (int step = 0; step < 18 && place <= left / 10; step++) {
        place *= 10;
      }
      putDigits(out, left, place);
    }

    /** All digits from a place (a power of ten) down, zeros ahead of them too. */
    static void putDigits(StringBuilder out, long value, long place) {
      for (long p = place; p > 0; p /= 10) {
        out.append((char) ('0' + value / p % 10));
      }
    }
  }

  /** A whole number beyond the long ones: six ROUNDS may multiply to some 10 to the 22nd. */
  private static final class Whole {
    private static final long BASE = 1000000000000L;
    private long high;
    private long low;

    void become(long value) {
      high = 0;
      low = 0;
      add(value);
    }

    void times(long factor) {
      high *= factor;
      low *= factor;
      carry();
    }

    void addTimes(Whole other, long factor) {
      high += other.high * factor;
      low += other.low * factor;
      carry();
    }

    void add(long value) {
      low += value;
      carry();
    }

    private void carry() {
      high += low / BASE;
      low %= BASE;
      if (low < 0) {
        high--;
        low += BASE;
      }
    }

    int restBy(int n) {
      return Numbers.rest((long) Numbers.rest(high, n) * Numbers.rest(BASE, n) + low, n);
    }

    /** What it is, as long as it is small. */
    long small() {
      return high * BASE + low;
    }

    void putOn(StringBuilder out) {
      if (high > 0) {
        Numbers.putLong(out, high);
        Numbers.putDigits(out, low, BASE / 10);
      } else {
        Numbers.putLong(out, small());
      }
    }
  }

  /** What is asked of one fraction; what a search found stands in upper and lower. */
  private static final class Fractions {
    private static final int MOST_PARTS = 64;
    private long upper;
    private long lower;
    private int nearCount;

    static void putParts(StringBuilder out, int top, int bottom) {
      int high = top;
      int low = bottom;
      for (int place = 0; place < MOST_PARTS && low > 0; place++) {
        if (place > 0) {
          out.append(place == 1 ? ';' : ',');
        }
        out.append(high / low);
        int left = high % low;
        high = low;
        low = left;
      }
    }

    static void putConvergent(StringBuilder out, int top, int bottom, int k) {
      int high = top;
      int low = bottom;
      long u = 1;
      long w = 0;
      long v = 0;
      long z = 1;
      for (int place = 0; place < MOST_PARTS && low > 0; place++) {
        int part = high / low;
        int left = high % low;
        high = low;
        low = left;
        long newer = part * u + v;
        v = u;
        u = newer;
        newer = part * w + z;
        z = w;
        w = newer;
        if (place == k) {
          Numbers.putFraction(out, u, w);
          return;
        }
      }
      out.append('-');
    }

    /** The runs are the PARTS, right and left by turns; the last step would pass the fraction itself. */
    static void putMiddles(StringBuilder out, int top, int bottom) {
      int high = top;
      int low = bottom;
      for (int place = 0; place < MOST_PARTS && low > 0; place++) {
        int part = high / low;
        int left = high % low;
        int run = left == 0 ? part - 1 : part;
        if (run > 0) {
          out.append(place % 2 == 0 ? 'R' : 'L');
          out.append(run);
        }
        high = low;
        low = left;
      }
    }

    /** Finds the nearest one with a lower number up to most; ends early at the NEAR one number k. */
    void seekNear(int top, int bottom, int most, int k) {
      long gap = bottom;
      upper = 0;
      lower = 0;
      nearCount = 0;
      for (int b = 1; b <= most && gap > 0 && nearCount <= k; b++) {
        long asked = (long) top * b;
        long under = Numbers.rest(asked, bottom);
        long over = bottom - under;
        long closer = Math.min(under, over);
        if (lower == 0 || closer * lower < gap * b) {
          gap = closer;
          upper = Numbers.floor(asked, bottom) + (over < under ? 1 : 0);
          lower = b;
          // Two at the same distance: neither has all others farther away.
          nearCount += under == over ? 0 : 1;
        }
      }
    }

    void seekUnder(int top, int bottom, int most) {
      lower = 0;
      for (int b = 1; b <= most; b++) {
        long a = Numbers.floor((long) top * b, bottom);
        if (lower == 0 || a * lower > upper * b) {
          upper = a;
          lower = b;
        }
      }
    }

    void seekOver(int top, int bottom, int most) {
      lower = 0;
      for (int b = 1; b <= most; b++) {
        long a = -Numbers.floor(-(long) top * b, bottom);
        if (lower == 0 || a * lower < upper * b) {
          upper = a;
          lower = b;
        }
      }
    }
  }

  /** The sizes that are CUT, rising, and the search for TRAINS. */
  private static final class Wheels {
    private static final int MOST = 8;
    private static final int MOST_SIDES = 120;
    private final int[] sizes = new int[MOST];
    private int count;
    // Each choice of wheels for one side of a TRAIN: what they multiply to, their teeth, their numbers by eights.
    private final int[] products = new int[MOST_SIDES];
    private final int[] teethSums = new int[MOST_SIDES];
    private final int[] codes = new int[MOST_SIDES];
    private int sides;
    private int bestDrivers;
    private int bestDriven;
    private long bestError;
    private long bestLower;
    private int bestTeeth;

    boolean isThere(int teeth) {
      for (int i = 0; i < count; i++) {
        if (Numbers.at(sizes, i) == teeth) {
          return true;
        }
      }
      return false;
    }

    void insert(int teeth) {
      int place = count;
      count++;
      for (int i = count - 1; i > 0 && Numbers.at(sizes, i - 1) > teeth; i--) {
        Numbers.put(sizes, i, Numbers.at(sizes, i - 1));
        place = i - 1;
      }
      Numbers.put(sizes, place, teeth);
    }

    void remove(int teeth) {
      int kept = 0;
      for (int i = 0; i < count; i++) {
        int size = Numbers.at(sizes, i);
        if (size != teeth) {
          Numbers.put(sizes, kept, size);
          kept++;
        }
      }
      count = kept;
    }

    /** In the order that decides between equal TRAINS, so that the first best one found is the one told. */
    private void gatherSides(int pairs) {
      sides = 0;
      for (int i = 0; i < count; i++) {
        int lastSecond = pairs > 1 ? count - 1 : i;
        for (int j = i; j <= lastSecond; j++) {
          int lastThird = pairs > 2 ? count - 1 : j;
          for (int k = j; k <= lastThird; k++) {
            addSide(i, j, k, pairs);
          }
        }
      }
    }

    private void addSide(int i, int j, int k, int pairs) {
      int product = Numbers.at(sizes, i);
      int teeth = product;
      if (pairs > 1) {
        product *= Numbers.at(sizes, j);
        teeth += Numbers.at(sizes, j);
      }
      if (pairs > 2) {
        product *= Numbers.at(sizes, k);
        teeth += Numbers.at(sizes, k);
      }
      Numbers.put(products, sides, product);
      Numbers.put(teethSums, sides, teeth);
      Numbers.put(codes, sides, i + 8 * j + 64 * k);
      sides++;
    }

    void seek(int top, int bottom, int pairs) {
      gatherSides(pairs);
      bestLower = 0;
      for (int d = 0; d < sides; d++) {
        long asked = (long) Numbers.at(products, d) * bottom;
        for (int e = 0; e < sides; e++) {
          long driven = Numbers.at(products, e);
          weigh(d, e, Math.abs(asked - top * driven), driven);
        }
      }
    }

    private void weigh(int d, int e, long error, long lower) {
      int teeth = Numbers.at(teethSums, d) + Numbers.at(teethSums, e);
      long mine = error * bestLower;
      long best = bestError * lower;
      if (bestLower == 0 || mine < best || mine == best && teeth < bestTeeth) {
        bestDrivers = d;
        bestDriven = e;
        bestError = error;
        bestLower = lower;
        bestTeeth = teeth;
      }
    }

    void putTrain(StringBuilder out, int pairs) {
      putSide(out, Numbers.at(codes, bestDrivers), pairs);
      out.append('>');
      putSide(out, Numbers.at(codes, bestDriven), pairs);
    }

    private void putSide(StringBuilder out, int code, int pairs) {
      int left = code;
      for (int i = 0; i < pairs; i++) {
        if (i > 0) {
          out.append(' ');
        }
        out.append(Numbers.at(sizes, left % 8));
        left /= 8;
      }
    }
  }

  /** The BODIES, and the SETS of them. */
  private static final class Bodies {
    private static final int MOST = 6;
    private final int[] rounds = new int[MOST];
    private final int[] begins = new int[MOST];
    private final int[] slips = new int[MOST];
    private final int[] upcoming = new int[MOST];
    private int count;
    private final Whole moment = new Whole();
    private final Whole step = new Whole();

    void tell(int body, int round, int begin, int slip) {
      Numbers.put(rounds, body, round);
      Numbers.put(begins, body, begin);
      Numbers.put(slips, body, slip);
    }

    int roundOf(int body) {
      return Numbers.at(rounds, body);
    }

    int beginOf(int body) {
      return Numbers.at(begins, body);
    }

    int slipOf(int body) {
      return Numbers.at(slips, body);
    }

    int allOfThem() {
      return (1 << count) - 1;
    }

    private static boolean holds(int set, int body) {
      return (set >> body & 1) == 1;
    }

    long meetsFrom(int body, long from) {
      return from + Numbers.rest(beginOf(body) - from, roundOf(body));
    }

    long meetsAhead(int body, long from) {
      return from - 1 - Numbers.rest(from - 1 - beginOf(body), roundOf(body));
    }

    int howOften(int body, int from, int to) {
      if (to < from) {
        return 0;
      }
      long upToLast = Numbers.floor((long) to - beginOf(body), roundOf(body));
      long aheadOfFirst = Numbers.floor((long) from - 1 - beginOf(body), roundOf(body));
      return (int) (upToLast - aheadOfFirst);
    }

    /** Two never meet just if their beginnings differ by no multiple of their ROUNDS' common measure. */
    private boolean neverMeet(int i, int j) {
      int common = (int) Numbers.gcd(roundOf(i), roundOf(j));
      return Numbers.rest((long) beginOf(i) - beginOf(j), common) != 0;
    }

    /** The first two of a SET that never meet, as 8 * one + another; NONE without such. */
    private int firstClash(int set) {
      for (int i = 0; i < count; i++) {
        for (int j = i + 1; j < count; j++) {
          if (holds(set, i) && holds(set, j) && neverMeet(i, j)) {
            return 8 * i + j;
          }
        }
      }
      return NONE;
    }

    void putMeeting(StringBuilder out, int set, int from) {
      int clash = firstClash(set);
      if (clash != NONE) {
        out.append("never ");
        out.append(clash / 8);
        out.append(' ');
        out.append(clash % 8);
        return;
      }
      seekMeeting(set, from);
      moment.putOn(out);
    }

    /** For a SET that meets: body by body, counted from the asked moment on, so that the least one comes out. */
    private void seekMeeting(int set, int from) {
      moment.become(0);
      step.become(1);
      for (int i = 0; i < count; i++) {
        if (holds(set, i)) {
          joinBody(roundOf(i), (long) beginOf(i) - from);
        }
      }
      moment.add(from);
    }

    private void joinBody(int round, long begin) {
      int stride = step.restBy(round);
      int common = (int) Numbers.gcd(stride, round);
      int reduced = (int) Numbers.floor(round, common);
      long wanted = Numbers.floor(Numbers.rest(begin - moment.restBy(round), round), common);
      long inverse = Numbers.inverseOf(Numbers.floor(stride, common), reduced);
      moment.addTimes(step, Numbers.rest(wanted * inverse, reduced));
      step.times(reduced);
    }

    void putAgain(StringBuilder out, int set) {
      step.become(1);
      for (int i = 0; i < count; i++) {
        if (holds(set, i)) {
          int round = roundOf(i);
          step.times(Numbers.floor(round, Numbers.gcd(step.restBy(round), round)));
        }
      }
      step.putOn(out);
    }

    boolean areNear(int set, int t) {
      for (int i = 0; i < count; i++) {
        if (holds(set, i) && Numbers.rest((long) t - beginOf(i), roundOf(i)) > slipOf(i)) {
          return false;
        }
      }
      return true;
    }

    void putEvent(StringBuilder out, int from, int k) {
      if (count == 0) {
        out.append('-');
        return;
      }
      for (int i = 0; i < count; i++) {
        Numbers.put(upcoming, i, (int) meetsFrom(i, from));
      }
      int first = firstUpcoming();
      for (int passed = 0; passed < k; passed++) {
        Numbers.put(upcoming, first, Numbers.at(upcoming, first) + roundOf(first));
        first = firstUpcoming();
      }
      out.append(Numbers.at(upcoming, first));
      out.append(':');
      out.append(first);
    }

    private int firstUpcoming() {
      int first = 0;
      for (int i = 1; i < count; i++) {
        if (Numbers.at(upcoming, i) < Numbers.at(upcoming, first)) {
          first = i;
        }
      }
      return first;
    }

    boolean areSound() {
      for (int i = 0; i < count; i++) {
        for (int j = i + 1; j < count; j++) {
          if (!neverMeet(i, j)) {
            seekMeeting(1 << i | 1 << j, 0);
            long first = moment.small();
            if (first < 0 || meetsFrom(i, first) != first || meetsFrom(j, first) != first) {
              return false;
            }
          }
        }
      }
      return true;
    }
  }

  /** A CALENDAR. A year has perYear units and, if it is a LEAP year, one more: days of the SUN, months of the MOON. */
  private static final class Calendar {
    private final int perYear;
    private final int extra;
    private final int cycle;
    private final int shift;
    // Of the SUN how many months, otherwise 0; of the MOON the days of a month as top / bottom.
    private final int months;
    private final int top;
    private final int bottom;
    private int foundYear;
    private int foundMonth;
    private int foundDay;

    Calendar(int perYear, int extra, int cycle, int shift, int months, int top, int bottom) {
      this.perYear = perYear;
      this.extra = extra;
      this.cycle = cycle;
      this.shift = shift;
      this.months = months;
      this.top = top;
      this.bottom = bottom;
    }

    int driftUpper(long year) {
      return Numbers.rest(year * extra + shift, cycle);
    }

    boolean isLong(long year) {
      return longYears(year, 1) > 0;
    }

    /** LEAP years from a year on: each has the LEAPS ahead of the next one raised by 1. */
    int longYears(long year, int many) {
      long ahead = Numbers.floor(year * extra + shift, cycle);
      return (int) (Numbers.floor((year + many) * extra + shift, cycle) - ahead);
    }

    private long firstUnit(long year) {
      return year * perYear + Numbers.floor(year * extra + shift, cycle);
    }

    private int unitsIn(long year) {
      return (int) (firstUnit(year + 1) - firstUnit(year));
    }

    /** The last year whose first unit is not above a unit: firstUnit's floor solved for the year. */
    private long yearWith(long unit) {
      return Numbers.floor((unit + 1) * cycle - 1 - shift, (long) perYear * cycle + extra);
    }

    long yearStart(long year) {
      return monthStart(year, 1);
    }

    int monthsIn(long year) {
      return months > 0 ? months : unitsIn(year);
    }

    /** The month behind the last one is the next year's first. */
    long monthStart(long year, int month) {
      long first = firstUnit(year);
      if (months > 0) {
        long days = firstUnit(year + 1) - first;
        return first + Numbers.floor((month - 1) * days, months);
      }
      return Numbers.floor((first + month - 1) * top, bottom);
    }

    int monthDays(long year, int month) {
      return (int) (monthStart(year, month + 1) - monthStart(year, month));
    }

    private int daysIn(long year) {
      if (months > 0) {
        return isLong(year) ? perYear + 1 : perYear;
      }
      return (int) (monthStart(year, unitsIn(year) + 1) - monthStart(year, 1));
    }

    private void find(long day) {
      long year;
      long month;
      if (months > 0) {
        year = yearWith(day);
        long into = day - firstUnit(year);
        month = Numbers.floor((into + 1) * months - 1, unitsIn(year)) + 1;
      } else {
        long number = Numbers.floor((day + 1) * bottom - 1, top);
        year = yearWith(number);
        month = number - firstUnit(year) + 1;
      }
      foundYear = (int) year;
      foundMonth = (int) month;
      foundDay = (int) (day - monthStart(year, foundMonth) + 1);
    }

    void putDate(StringBuilder out, long day) {
      find(day);
      out.append(foundYear);
      out.append('/');
      out.append(foundMonth);
      out.append('/');
      out.append(foundDay);
    }

    boolean isYearSound(int year) {
      long start = yearStart(year);
      if (yearStart(year + 1) != start + daysIn(year) || driftUpper(year) >= cycle) {
        return false;
      }
      find(start);
      return foundYear == year && foundMonth == 1 && foundDay == 1;
    }
  }

  /** The common civil calendar. */
  private static final class Civil {
    // From January 1 of the year 0 to day 0.
    private static final int AHEAD = 719528;
    private static final int DAYS_OF_400 = 146097;
    private static final int[] DAYS = {31, 28, 31, 30, 31, 30, 31, 31, 30, 31, 30, 31};

    private static boolean isLong(int year) {
      return Math.floorMod(year, 4) == 0 && (Math.floorMod(year, 100) != 0 || Math.floorMod(year, 400) == 0);
    }

    static int monthDays(int year, int month) {
      return month == 2 && isLong(year) ? 29 : Numbers.at(DAYS, month - 1);
    }

    /** LEAP years ahead of a year are counted from the year 0 on, which is one itself. */
    private static int firstDay(int year) {
      int leaps = Math.floorDiv(year + 3, 4) - Math.floorDiv(year + 99, 100) + Math.floorDiv(year + 399, 400);
      return 365 * year + leaps - AHEAD;
    }

    static int dayNumber(int year, int month, int day) {
      int first = firstDay(year);
      for (int m = 1; m < month && m <= 12; m++) {
        first += monthDays(year, m);
      }
      return first + day - 1;
    }

    static void putDate(StringBuilder out, int day) {
      int year = yearWith(day);
      int left = day - firstDay(year);
      int month = 1;
      for (int m = 1; m < 12 && left >= monthDays(year, m); m++) {
        left -= monthDays(year, m);
        month = m + 1;
      }
      out.append(year);
      out.append('-');
      out.append(month);
      out.append('-');
      out.append(left + 1);
    }

    /** By the mean length of a year the guess is off by one at most. */
    private static int yearWith(int day) {
      int year = (int) Math.floorDiv((day + (long) AHEAD) * 400, (long) DAYS_OF_400);
      if (firstDay(year) > day) {
        return year - 1;
      }
      return firstDay(year + 1) <= day ? year + 1 : year;
    }
  }

  /** The SKY; it is told as soon as the sun has steps. */
  private static final class Sky {
    private static final int CIRCLE = 3600;
    private static final int HALF = 1800;
    private int sunSteps;
    private int moonSteps;
    private int knotSteps;
    private int slack;

    void tell(int sun, int moon, int knot, int window) {
      sunSteps = sun;
      moonSteps = moon;
      knotSteps = knot;
      slack = window;
    }

    boolean isTold() {
      return sunSteps > 0;
    }

    int moonPlace(long t) {
      return Numbers.rest((moonSteps - sunSteps) * t, CIRCLE);
    }

    int knotPlace(long t) {
      return Numbers.rest((sunSteps - knotSteps) * t, HALF);
    }

    int wholeRound() {
      long moonRound = Numbers.floor(CIRCLE, Numbers.gcd(moonSteps - sunSteps, CIRCLE));
      long knotRound = Numbers.floor(HALF, Numbers.gcd(Math.abs(sunSteps - knotSteps), HALF));
      return Numbers.lcm((int) moonRound, (int) knotRound);
    }

    boolean isDark(long t) {
      int place = knotPlace(t);
      return moonPlace(t) < moonSteps - sunSteps && (place <= slack || HALF - place <= slack);
    }

    int darkDays(int from, int many) {
      int dark = 0;
      for (int i = 0; i < many; i++) {
        dark += isDark((long) from + i) ? 1 : 0;
      }
      return dark;
    }

    boolean isRoundSound() {
      if (!isTold()) {
        return true;
      }
      int round = wholeRound();
      for (int t = 0; t <= 99; t++) {
        if (isDark(t) != isDark(t + round)) {
          return false;
        }
      }
      return true;
    }
  }

  /** The SWINGS and the port's delay. */
  private static final class Tides {
    private static final int MOST = 3;
    private static final int LONGEST = 12;
    private final int[] rounds = new int[MOST];
    private final int[] begins = new int[MOST];
    private final int[] shares = new int[MOST * LONGEST];
    private int count;
    private int delay;

    void insert(int round, int begin) {
      Numbers.put(rounds, count, round);
      Numbers.put(begins, count, begin);
      for (int k = 0; k < LONGEST; k++) {
        putShare(count, k, 0);
      }
      count++;
    }

    int roundOf(int swing) {
      return Numbers.at(rounds, swing);
    }

    int shareOf(int swing, int k) {
      return Numbers.at(shares, swing * LONGEST + k);
    }

    void putShare(int swing, int k, int value) {
      Numbers.put(shares, swing * LONGEST + k, value);
    }

    int level(long t) {
      int sum = 0;
      for (int i = 0; i < count; i++) {
        sum += shareOf(i, Numbers.rest(t - delay - Numbers.at(begins, i), roundOf(i)));
      }
      return sum;
    }

    int wholeRound() {
      int round = 1;
      for (int i = 0; i < count; i++) {
        round = Numbers.lcm(round, roundOf(i));
      }
      return round;
    }

    /** 1 for a HIGH, -1 for a LOW, 0 for neither. */
    private static int turnOf(int ahead, int here, int behind) {
      if (here > ahead && here > behind) {
        return 1;
      }
      return here < ahead && here < behind ? -1 : 0;
    }

    void putTurn(StringBuilder out, int from, int turn) {
      int round = wholeRound();
      for (int t = from; t < from + round; t++) {
        if (turnOf(level(t - 1), level(t), level(t + 1)) == turn) {
          out.append(t);
          return;
        }
      }
      out.append('-');
    }

    /** Where there is a turn at all, each round has one: so many rounds have enough of them. */
    void putTable(StringBuilder out, int from, int many) {
      int end = from + many * wholeRound();
      int found = 0;
      int ahead = level(from - 1);
      int here = level(from);
      for (int t = from; t < end && found < many; t++) {
        int behind = level(t + 1);
        int turn = turnOf(ahead, here, behind);
        if (turn != 0) {
          if (found > 0) {
            out.append(' ');
          }
          out.append(t);
          out.append(turn > 0 ? '^' : 'v');
          out.append(here);
          found++;
        }
        ahead = here;
        here = behind;
      }
    }

    boolean isRoundSound() {
      int round = wholeRound();
      for (int t = 0; t <= 49; t++) {
        if (level(t) != level(t + round)) {
          return false;
        }
      }
      return true;
    }
  }

  /** The MARKS, by rising moments. */
  private static final class Marks {
    private static final int MOST = 20;
    private final int[] moments = new int[MOST];
    private final int[] notes = new int[MOST];
    private int count;

    /** How many MARKS lie below a moment: the place where one on it is or would be. */
    private int placeOf(int moment) {
      int place = 0;
      for (int i = 0; i < count && Numbers.at(moments, i) < moment; i++) {
        place = i + 1;
      }
      return place;
    }

    private boolean isAt(int place, int moment) {
      return place < count && Numbers.at(moments, place) == moment;
    }

    int noteOn(int moment) {
      int place = placeOf(moment);
      return isAt(place, moment) ? Numbers.at(notes, place) : NONE;
    }

    /** Puts a note on a moment, or, with NONE, takes away what is there. */
    void place(int moment, int note) {
      int place = placeOf(moment);
      boolean isThere = isAt(place, moment);
      if (note == NONE) {
        if (isThere) {
          closeUp(place);
        }
        return;
      }
      if (!isThere) {
        makeRoom(place);
      }
      Numbers.put(moments, place, moment);
      Numbers.put(notes, place, note);
    }

    private void makeRoom(int place) {
      for (int i = count; i > place; i--) {
        copy(i - 1, i);
      }
      count++;
    }

    private void closeUp(int place) {
      count--;
      for (int i = place; i < count; i++) {
        copy(i + 1, i);
      }
    }

    private void copy(int from, int to) {
      Numbers.put(moments, to, Numbers.at(moments, from));
      Numbers.put(notes, to, Numbers.at(notes, from));
    }

    void putRow(StringBuilder out, int from, int to) {
      int first = placeOf(from);
      if (first > 0) {
        out.append('<');
        putMark(out, first - 1);
        out.append(' ');
      }
      for (int i = first; i < count && Numbers.at(moments, i) <= to; i++) {
        if (i > first) {
          out.append(' ');
        }
        putMark(out, i);
      }
    }

    private void putMark(StringBuilder out, int place) {
      out.append(Numbers.at(moments, place));
      out.append(':');
      out.append(Numbers.at(notes, place));
    }
  }

  /** The last CHANGES: of each its kind and what was so before it. */
  private static final class Log {
    private static final int MOST = 10;
    private static final int WIDTH = 5;
    private final int[] cells = new int[MOST * WIDTH];
    private int begin;
    private int count;

    void keep(int kind, int a, int b, int c, int d) {
      if (count == MOST) {
        begin = (begin + 1) % MOST;
        count--;
      }
      count++;
      int row = lastRow();
      Numbers.put(cells, row, kind);
      Numbers.put(cells, row + 1, a);
      Numbers.put(cells, row + 2, b);
      Numbers.put(cells, row + 3, c);
      Numbers.put(cells, row + 4, d);
    }

    private int lastRow() {
      return (begin + count - 1) % MOST * WIDTH;
    }

    /** Of the last CHANGE. */
    int cell(int i) {
      return Numbers.at(cells, lastRow() + i);
    }

    void drop() {
      if (count > 0) {
        count--;
      }
    }
  }
}
