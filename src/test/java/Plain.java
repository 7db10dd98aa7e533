import java.math.BigInteger;
import java.time.LocalDate;
import java.util.ArrayList;
import java.util.Arrays;
import java.util.Collections;
import java.util.List;
import java.util.TreeMap;
import java.util.TreeSet;

/**
 * The document once more, in the most plodding way: by scanning, with whole copies of the state for undo.
 * The random runs hold the program against it.
 */
final class Plain {
  private static final class Told {
    TreeSet<Integer> sizes = new TreeSet<>();
    List<int[]> bodies = new ArrayList<>();
    List<int[]> calendars = new ArrayList<>();
    int[] sky = null;
    List<int[]> swings = new ArrayList<>();
    int delay = 0;
    int[] rise = new int[12];
    int pieces = 30;
    TreeMap<Integer, Integer> marks = new TreeMap<>();

    Told copy() {
      Told c = new Told();
      c.sizes = new TreeSet<>(sizes);
      c.bodies = copies(bodies);
      c.calendars = copies(calendars);
      c.sky = sky == null ? null : sky.clone();
      c.swings = copies(swings);
      c.delay = delay;
      c.rise = rise.clone();
      c.pieces = pieces;
      c.marks = new TreeMap<>(marks);
      return c;
    }

    private static List<int[]> copies(List<int[]> rows) {
      List<int[]> out = new ArrayList<>();
      for (int[] row : rows) {
        out.add(row.clone());
      }
      return out;
    }
  }

  private Told now = new Told();
  private final List<Told> before = new ArrayList<>();
  private int knocks = 0;

  private void change() {
    before.add(now.copy());
    if (before.size() > 10) {
      before.remove(0);
    }
  }

  private static void bad(boolean isBad) {
    if (isBad) {
      throw new IllegalArgumentException();
    }
  }

  private static void gone(boolean isGone) {
    if (isGone) {
      throw new IndexOutOfBoundsException();
    }
  }

  private static void state(boolean isBad) {
    if (isBad) {
      throw new IllegalStateException();
    }
  }

  private static boolean out(long v, long least, long most) {
    return v < least || v > most;
  }

  private static String fraction(long upper, long lower) {
    BigInteger u = BigInteger.valueOf(upper);
    BigInteger l = BigInteger.valueOf(lower);
    BigInteger g = u.gcd(l);
    return u.divide(g) + "/" + l.divide(g);
  }

  private static void asked(int top, int bottom) {
    bad(out(top, 1, 9999) || out(bottom, 1, 9999));
  }

  private static List<Integer> partRow(int top, int bottom) {
    List<Integer> row = new ArrayList<>();
    row.add(top / bottom);
    if (top % bottom != 0) {
      row.addAll(partRow(bottom, top % bottom));
    }
    return row;
  }

  String parts(int top, int bottom) {
    asked(top, bottom);
    String row = partRow(top, bottom).toString().replace("[", "").replace("]", "").replace(" ", "");
    return row.replaceFirst(",", ";");
  }

  String convergent(int top, int bottom, int k) {
    asked(top, bottom);
    bad(k < 0);
    List<Integer> row = partRow(top, bottom);
    if (k >= row.size()) {
      return "-";
    }
    long upper = row.get(k);
    long lower = 1;
    for (int i = k - 1; i >= 0; i--) {
      long u = row.get(i) * upper + lower;
      lower = upper;
      upper = u;
    }
    return fraction(upper, lower);
  }

  String middles(int top, int bottom) {
    asked(top, bottom);
    long la = 0;
    long lb = 1;
    long ra = 1;
    long rb = 0;
    StringBuilder s = new StringBuilder();
    char last = ' ';
    int run = 0;
    while ((la + ra) * bottom != top * (lb + rb)) {
      boolean right = top * (lb + rb) > (la + ra) * bottom;
      char c = right ? 'R' : 'L';
      if (c != last && run > 0) {
        s.append(last).append(run);
        run = 0;
      }
      last = c;
      run++;
      long ma = la + ra;
      long mb = lb + rb;
      if (right) {
        la = ma;
        lb = mb;
      } else {
        ra = ma;
        rb = mb;
      }
    }
    return run > 0 ? s.append(last).append(run).toString() : "";
  }

  /** The NEAR ones: from all pairs of a lower number and a nearest upper one, those that beat all ahead strictly. */
  private static List<String> nearRow(int top, int bottom) {
    List<String> row = new ArrayList<>();
    long bestUpper = Long.MAX_VALUE;
    long bestLower = 1;
    for (int b = 1; b <= bottom; b++) {
      long a = (long) top * b / bottom;
      long u0 = (long) top * b - a * bottom;
      long u1 = (a + 1) * bottom - (long) top * b;
      long u = Math.min(u0, u1);
      BigInteger mine = BigInteger.valueOf(u).multiply(BigInteger.valueOf(bestLower));
      if (mine.compareTo(BigInteger.valueOf(bestUpper).multiply(BigInteger.valueOf(b))) < 0) {
        bestUpper = u;
        bestLower = b;
        if (u0 != u1) {
          row.add(fraction(u0 < u1 ? a : a + 1, b));
        }
      }
    }
    return row;
  }

  String near(int top, int bottom, int k) {
    asked(top, bottom);
    bad(k < 0);
    List<String> row = nearRow(top, bottom);
    return k < row.size() ? row.get(k) : "-";
  }

  int nears(int top, int bottom) {
    asked(top, bottom);
    return nearRow(top, bottom).size();
  }

  String nearest(int top, int bottom, int most) {
    asked(top, bottom);
    bad(out(most, 1, 9999));
    long ba = -1;
    long bb = 1;
    for (long b = 1; b <= most; b++) {
      for (long a = top * b / bottom; a <= top * b / bottom + 1; a++) {
        long mine = Math.abs(top * b - a * bottom) * bb;
        long best = Math.abs(top * bb - ba * bottom) * b;
        if (ba < 0 || mine < best) {
          ba = a;
          bb = b;
        }
      }
    }
    return fraction(ba, bb);
  }

  String below(int top, int bottom, int most) {
    asked(top, bottom);
    bad(out(most, 1, 9999));
    long ba = 0;
    long bb = 1;
    for (long b = 1; b <= most; b++) {
      long a = top * b / bottom;
      if (a * bb > ba * b) {
        ba = a;
        bb = b;
      }
    }
    return fraction(ba, bb);
  }

  String above(int top, int bottom, int most) {
    asked(top, bottom);
    bad(out(most, 1, 9999));
    long ba = 10000;
    long bb = 1;
    for (long b = 1; b <= most; b++) {
      long a = top * b / bottom;
      while (a * bottom < top * b) {
        a++;
      }
      if (a * bb < ba * b) {
        ba = a;
        bb = b;
      }
    }
    return fraction(ba, bb);
  }

  int cut(int teeth) {
    bad(out(teeth, 6, 120));
    if (!now.sizes.contains(teeth)) {
      state(now.sizes.size() == 8);
      change();
      now.sizes.add(teeth);
    }
    return now.sizes.size();
  }

  private static void sides(List<Integer> sizes, int pairs, List<Integer> chosen, List<List<Integer>> all) {
    if (chosen.size() == pairs) {
      all.add(new ArrayList<>(chosen));
      return;
    }
    for (int s : sizes) {
      if (chosen.isEmpty() || s >= chosen.get(chosen.size() - 1)) {
        chosen.add(s);
        sides(sizes, pairs, chosen, all);
        chosen.remove(chosen.size() - 1);
      }
    }
  }

  private static long product(List<Integer> row) {
    long p = 1;
    for (int s : row) {
      p *= s;
    }
    return p;
  }

  private static int order(List<Integer> a, List<Integer> b) {
    for (int i = 0; i < a.size(); i++) {
      if (!a.get(i).equals(b.get(i))) {
        return Integer.compare(a.get(i), b.get(i));
      }
    }
    return 0;
  }

  /** The drivers and then the driven ones, in one row. */
  private List<Integer> bestTrain(int top, int bottom, int pairs) {
    asked(top, bottom);
    bad(out(pairs, 1, 3));
    state(now.sizes.isEmpty());
    List<List<Integer>> all = new ArrayList<>();
    sides(new ArrayList<>(now.sizes), pairs, new ArrayList<>(), all);
    Collections.reverse(all);
    List<Integer> best = null;
    long bestError = 0;
    long bestLower = 1;
    int bestTeeth = 0;
    for (List<Integer> driven : all) {
      for (List<Integer> drivers : all) {
        long lower = product(driven);
        long error = Math.abs(product(drivers) * bottom - top * lower);
        List<Integer> row = new ArrayList<>(drivers);
        row.addAll(driven);
        int teeth = 0;
        for (int s : row) {
          teeth += s;
        }
        int c = best == null ? -1 : Long.compare(error * bestLower, bestError * lower);
        c = c == 0 ? Integer.compare(teeth, bestTeeth) : c;
        c = c == 0 ? order(row, best) : c;
        if (c < 0) {
          best = row;
          bestError = error;
          bestLower = lower;
          bestTeeth = teeth;
        }
      }
    }
    return best;
  }

  String train(int top, int bottom, int pairs) {
    List<Integer> row = bestTrain(top, bottom, pairs);
    StringBuilder s = new StringBuilder();
    for (int i = 0; i < row.size(); i++) {
      s.append(i == 0 ? "" : i == pairs ? ">" : " ").append(row.get(i));
    }
    return s.toString();
  }

  String trainError(int top, int bottom, int pairs) {
    List<Integer> row = bestTrain(top, bottom, pairs);
    long p = product(row.subList(0, pairs));
    long q = product(row.subList(pairs, 2 * pairs));
    return fraction(Math.abs(p * bottom - q * top), q * bottom);
  }

  String planets(int sun, int ring, int held) {
    bad(out(sun, 6, 120) || out(ring, 6, 400) || out(held, 0, 2) || ring <= sun || (ring - sun) % 2 != 0);
    return held == 0 ? fraction(sun, sun + ring) : held == 1 ? fraction(ring, sun + ring) : fraction(-sun, ring);
  }

  int body(int round, int begin, int slip) {
    bad(out(round, 1, 5000) || out(begin, -10000, 10000) || out(slip, 0, round - 1));
    state(now.bodies.size() == 6);
    change();
    now.bodies.add(new int[] {round, begin, slip});
    return now.bodies.size() - 1;
  }

  private int[] bodyAt(int body) {
    gone(body < 0 || body >= now.bodies.size());
    return now.bodies.get(body);
  }

  private static void moment(int t) {
    bad(out(t, -100000, 100000));
  }

  int retell(int body, int round, int begin) {
    bodyAt(body);
    bad(out(round, 1, 5000) || out(begin, -10000, 10000));
    change();
    int[] row = bodyAt(body);
    int old = row[0];
    row[0] = round;
    row[1] = begin;
    row[2] = Math.min(row[2], round - 1);
    return old;
  }

  private static boolean meets(int[] row, long t) {
    return Math.floorMod(t - row[1], (long) row[0]) == 0;
  }

  private static long firstMeeting(int[] row, long from) {
    long t = from;
    while (!meets(row, t)) {
      t++;
    }
    return t;
  }

  int nextOf(int body, int from) {
    int[] row = bodyAt(body);
    moment(from);
    return (int) firstMeeting(row, from);
  }

  int aheadOf(int body, int from) {
    int[] row = bodyAt(body);
    moment(from);
    int t = from - 1;
    while (!meets(row, t)) {
      t--;
    }
    return t;
  }

  int many(int body, int from, int to) {
    int[] row = bodyAt(body);
    moment(from);
    moment(to);
    int n = 0;
    for (int t = from; t <= to; t++) {
      n += meets(row, t) ? 1 : 0;
    }
    return n;
  }

  private List<Integer> setOf(int set) {
    bad(set <= 0);
    List<Integer> row = new ArrayList<>();
    for (int i = 0; i < 31; i++) {
      if ((set & 1 << i) != 0) {
        bad(i >= now.bodies.size());
        row.add(i);
      }
    }
    return row;
  }

  String meet(int set, int from) {
    List<Integer> row = setOf(set);
    moment(from);
    for (int i : row) {
      for (int j : row) {
        int[] a = now.bodies.get(i);
        int[] b = now.bodies.get(j);
        int g = BigInteger.valueOf(a[0]).gcd(BigInteger.valueOf(b[0])).intValue();
        if (i < j && (a[1] - b[1]) % g != 0) {
          return "never " + i + " " + j;
        }
      }
    }
    BigInteger t = BigInteger.valueOf(from);
    BigInteger step = BigInteger.ONE;
    for (int i : row) {
      BigInteger round = BigInteger.valueOf(now.bodies.get(i)[0]);
      BigInteger begin = BigInteger.valueOf(now.bodies.get(i)[1]);
      while (t.subtract(begin).mod(round).signum() != 0) {
        t = t.add(step);
      }
      step = step.divide(step.gcd(round)).multiply(round);
    }
    return t.toString();
  }

  String again(int set) {
    BigInteger step = BigInteger.ONE;
    for (int i : setOf(set)) {
      BigInteger round = BigInteger.valueOf(now.bodies.get(i)[0]);
      step = step.multiply(round).divide(step.gcd(round));
    }
    return step.toString();
  }

  String window(int set, int from) {
    List<Integer> row = setOf(set);
    moment(from);
    for (int t = from; t <= from + 3000; t++) {
      boolean all = true;
      for (int i : row) {
        int[] b = now.bodies.get(i);
        all = all && Math.floorMod(t - b[1], b[0]) <= b[2];
      }
      if (all) {
        return "" + t;
      }
    }
    return "-";
  }

  String event(int from, int k) {
    moment(from);
    bad(out(k, 0, 30));
    if (now.bodies.isEmpty()) {
      return "-";
    }
    int n = k;
    for (int t = from;; t++) {
      for (int i = 0; i < now.bodies.size(); i++) {
        if (meets(now.bodies.get(i), t)) {
          if (n == 0) {
            return t + ":" + i;
          }
          n--;
        }
      }
    }
  }

  int inverse(int a, int n) {
    bad(out(a, -9999, 9999) || out(n, 1, 9999));
    for (int x = 0; x < n; x++) {
      if (Math.floorMod((long) a * x, (long) n) == 1 % n) {
        return x;
      }
    }
    return -1;
  }

  // A calendar's row: 0 of the sun or 1 of the moon, extra, cycle, shift, days or top, months or bottom.
  int sun(int days, int extra, int cycle, int shift, int months) {
    bad(out(days, 20, 500) || out(cycle, 1, 500) || out(extra, 0, cycle - 1) || out(shift, 0, cycle - 1)
        || out(months, 1, 20));
    state(now.calendars.size() == 4);
    change();
    now.calendars.add(new int[] {0, extra, cycle, shift, days, months});
    return now.calendars.size() - 1;
  }

  int moon(int top, int bottom, int extra, int cycle, int shift) {
    bad(out(bottom, 1, 9999) || out(top, 5L * bottom, 60L * bottom) || out(cycle, 1, 500)
        || out(extra, 0, cycle - 1) || out(shift, 0, cycle - 1));
    state(now.calendars.size() == 4);
    change();
    now.calendars.add(new int[] {1, extra, cycle, shift, top, bottom});
    return now.calendars.size() - 1;
  }

  private int[] calendarAt(int calendar) {
    gone(calendar < 0 || calendar >= now.calendars.size());
    return now.calendars.get(calendar);
  }

  private static void year(int year) {
    bad(out(year, -3000, 3000));
  }

  private static long leapsAhead(int[] c, long year) {
    return Math.floorDiv(year * c[1] + c[3], (long) c[2]);
  }

  private static boolean leap(int[] c, long year) {
    return leapsAhead(c, year + 1) > leapsAhead(c, year);
  }

  /** The days at which the months of a year begin, and the one at which the next year does. */
  private static long[] begins(int[] c, long year) {
    int months = c[0] == 0 ? c[5] : leap(c, year) ? 13 : 12;
    long[] row = new long[months + 1];
    for (int k = 0; k <= months; k++) {
      if (c[0] == 0) {
        long length = c[4] + (leap(c, year) ? 1 : 0);
        row[k] = year * c[4] + leapsAhead(c, year) + k * length / months;
      } else {
        row[k] = Math.floorDiv((12 * year + leapsAhead(c, year) + k) * c[4], (long) c[5]);
      }
    }
    return row;
  }

  int yearBegin(int calendar, int year) {
    int[] c = calendarAt(calendar);
    year(year);
    return (int) begins(c, year)[0];
  }

  boolean isLeap(int calendar, int year) {
    int[] c = calendarAt(calendar);
    year(year);
    return leap(c, year);
  }

  int leaps(int calendar, int year, int many) {
    int[] c = calendarAt(calendar);
    year(year);
    bad(out(many, 0, 1000));
    int n = 0;
    for (int i = 0; i < many; i++) {
      n += leap(c, year + i) ? 1 : 0;
    }
    return n;
  }

  String drift(int calendar, int year) {
    int[] c = calendarAt(calendar);
    year(year);
    return fraction(Math.floorMod((long) year * c[1] + c[3], (long) c[2]), c[2]);
  }

  private static long dayBy(int[] c, int year, int month, int day) {
    year(year);
    long[] row = begins(c, year);
    bad(out(month, 1, row.length - 1));
    bad(out(day, 1, row[month] - row[month - 1]));
    return row[month - 1] + day - 1;
  }

  int dayOf(int calendar, int year, int month, int day) {
    return (int) dayBy(calendarAt(calendar), year, month, day);
  }

  private static String dateBy(int[] c, long day) {
    long low = -200000;
    long high = 200000;
    while (high - low > 1) {
      long middle = (low + high) >> 1;
      if (begins(c, middle)[0] <= day) {
        low = middle;
      } else {
        high = middle;
      }
    }
    long[] row = begins(c, low);
    int month = row.length - 1;
    while (row[month - 1] > day) {
      month--;
    }
    return low + "/" + month + "/" + (day - row[month - 1] + 1);
  }

  String date(int calendar, int day) {
    int[] c = calendarAt(calendar);
    bad(out(day, -1000000, 1000000));
    return dateBy(c, day);
  }

  String turned(int calendar, int other, int year, int month, int day) {
    int[] c = calendarAt(calendar);
    int[] o = calendarAt(other);
    return dateBy(o, dayBy(c, year, month, day));
  }

  String civil(int day) {
    bad(out(day, -1000000, 1000000));
    LocalDate d = LocalDate.ofEpochDay(day);
    return d.getYear() + "-" + d.getMonthValue() + "-" + d.getDayOfMonth();
  }

  int fromCivil(int year, int month, int day) {
    bad(out(year, -700, 4000) || out(month, 1, 12));
    LocalDate first = LocalDate.of(year, month, 1);
    bad(out(day, 1, first.lengthOfMonth()));
    return (int) first.toEpochDay() + day - 1;
  }

  int feast(int calendar, int year, int month, int body, int week) {
    int[] c = calendarAt(calendar);
    int[] b = bodyAt(body);
    long first = dayBy(c, year, month, 1);
    bad(out(week, 0, 6));
    long day = firstMeeting(b, first) + 1;
    while (Math.floorMod(day + 4, 7L) != week) {
      day++;
    }
    return (int) day;
  }

  private static int skyRound(int[] s) {
    int t = 1;
    while ((s[1] - s[0]) * t % 3600 != 0 || (s[0] - s[2]) * t % 1800 != 0) {
      t++;
    }
    return t;
  }

  int sky(int sun, int moon, int knot, int window) {
    bad(out(sun, 1, 1000) || out(moon, sun + 1L, 1799) || out(knot, -1000, 1000) || out(window, 0, 900));
    change();
    now.sky = new int[] {sun, moon, knot, window};
    return skyRound(now.sky);
  }

  private boolean dark(long t) {
    int[] s = now.sky;
    long e = Math.floorMod((s[0] - s[2]) * t, 1800L);
    return Math.floorMod((s[1] - s[0]) * t, 3600L) < s[1] - s[0] && (e <= s[3] || 1800 - e <= s[3]);
  }

  String eclipse(int from) {
    moment(from);
    state(now.sky == null);
    for (int t = from; t < from + 8000; t++) {
      if (dark(t)) {
        return "" + t;
      }
    }
    return "-";
  }

  int eclipses(int from, int many) {
    moment(from);
    bad(out(many, 0, 5000));
    state(now.sky == null);
    int n = 0;
    for (int t = from; t < from + many; t++) {
      n += dark(t) ? 1 : 0;
    }
    return n;
  }

  String skySlip(int days) {
    bad(out(days, 0, 100000));
    state(now.sky == null);
    int[] s = now.sky;
    return Math.floorMod((s[1] - s[0]) * days, 3600) + " " + Math.floorMod((s[0] - s[2]) * days, 1800);
  }

  // A swing's row: round, beginning, shares.
  int swing(int round, int begin) {
    bad(out(round, 2, 12) || out(begin, -1000, 1000));
    state(now.swings.size() == 3);
    change();
    int[] row = new int[round + 2];
    row[0] = round;
    row[1] = begin;
    now.swings.add(row);
    return now.swings.size() - 1;
  }

  int share(int swing, int k, int value) {
    gone(swing < 0 || swing >= now.swings.size());
    gone(k < 0 || k >= now.swings.get(swing)[0]);
    bad(out(value, -99, 99));
    change();
    int old = now.swings.get(swing)[k + 2];
    now.swings.get(swing)[k + 2] = value;
    return old;
  }

  int port(int delay) {
    bad(out(delay, -500, 500));
    change();
    int old = now.delay;
    now.delay = delay;
    return old;
  }

  private int level(int t) {
    int sum = 0;
    for (int[] s : now.swings) {
      sum += s[2 + Math.floorMod(t - now.delay - s[1], s[0])];
    }
    return sum;
  }

  int height(int t) {
    moment(t);
    return level(t);
  }

  private String turnAt(int t) {
    int h = level(t);
    if (h > level(t - 1) && h > level(t + 1)) {
      return "^";
    }
    return h < level(t - 1) && h < level(t + 1) ? "v" : "";
  }

  String tide(int from, boolean isLow) {
    moment(from);
    for (int t = from; t < from + 2000; t++) {
      if (turnAt(t).equals(isLow ? "v" : "^")) {
        return "" + t;
      }
    }
    return "-";
  }

  String table(int from, int many) {
    moment(from);
    bad(out(many, 1, 9));
    List<String> row = new ArrayList<>();
    for (int t = from; t < from + 20000 && row.size() < many; t++) {
      if (!turnAt(t).isEmpty()) {
        row.add(t + turnAt(t) + level(t));
      }
    }
    return String.join(" ", row);
  }

  int tideRound() {
    for (int n = 1;; n++) {
      boolean all = true;
      for (int[] s : now.swings) {
        all = all && n % s[0] == 0;
      }
      if (all) {
        return n;
      }
    }
  }

  int rise(int k, int value) {
    gone(k < 0 || k > 11);
    bad(out(value, -9999, 9999));
    change();
    int old = now.rise[k];
    now.rise[k] = value;
    return old;
  }

  int pieces(int days) {
    bad(out(days, 1, 60));
    change();
    int old = now.pieces;
    now.pieces = days;
    return old;
  }

  int rising(int day) {
    moment(day);
    int n = Math.floorMod(day, 12 * now.pieces);
    int i = n / now.pieces;
    int f = n % now.pieces;
    return now.rise[i] + Math.floorDiv((now.rise[(i + 1) % 12] - now.rise[i]) * f, now.pieces);
  }

  int lay(int moment, int note) {
    moment(moment);
    bad(out(note, -1, 99));
    Integer old = now.marks.get(moment);
    state(note != -1 && old == null && now.marks.size() == 20);
    if (note == -1 && old == null) {
      return -1;
    }
    change();
    if (note == -1) {
      now.marks.remove(moment);
    } else {
      now.marks.put(moment, note);
    }
    return old == null ? -1 : old;
  }

  String marks(int from, int to) {
    moment(from);
    moment(to);
    List<String> row = new ArrayList<>();
    String ahead = "";
    for (int m : now.marks.keySet()) {
      if (m < from) {
        ahead = "<" + m + ":" + now.marks.get(m) + " ";
      } else if (m <= to) {
        row.add(m + ":" + now.marks.get(m));
      }
    }
    return ahead + String.join(" ", row);
  }

  int undo() {
    state(before.isEmpty());
    now = before.remove(before.size() - 1);
    return before.size();
  }

  int house(int what) {
    bad(out(what, 0, 6));
    return Arrays.asList(now.sizes.size(), now.bodies.size(), now.calendars.size(), now.swings.size(),
        now.marks.size(), before.size(), knocks).get(what);
  }

  int knock() {
    return ++knocks;
  }

  /** What it tells is a theorem for all that can be told. */
  boolean isSound() {
    return true;
  }

  private long mix = 0;

  private void mix(long v) {
    mix = mix * 31 + v;
  }

  private void mix(String s) {
    for (char c : s.toCharArray()) {
      mix(c);
    }
  }

  long digest() {
    mix = 6602;
    for (int what = 0; what <= 6; what++) {
      mix(house(what));
    }
    for (int i = 0; i < now.bodies.size(); i++) {
      mix(nextOf(i, 0));
      mix(aheadOf(i, 0));
    }
    if (!now.bodies.isEmpty()) {
      mix(again((1 << now.bodies.size()) - 1));
      mix(meet((1 << now.bodies.size()) - 1, 0));
    }
    for (int i = 0; i < now.calendars.size(); i++) {
      for (int year = -50; year <= 50; year += 50) {
        mix(yearBegin(i, year));
        mix(leaps(i, year, 100));
      }
      mix(date(i, -1000));
      mix(date(i, 0));
      mix(date(i, 1000));
    }
    if (now.sky != null) {
      mix(eclipses(0, 1000));
    }
    mix(tideRound());
    for (int t = 0; t < 12; t++) {
      mix(height(t));
    }
    for (int day = 0; day <= 360; day += 45) {
      mix(rising(day));
    }
    mix(marks(-100000, 100000));
    mix(isSound() ? 1 : 0);
    return mix;
  }
}
