import java.util.ArrayList;
import java.util.List;
import java.util.function.Consumer;
import java.util.function.Supplier;

/** Each sentence of promises 50 to 56, and of UNDO, that names an edge. */
public final class HouseEdgesTest {
  private static final Class<IllegalArgumentException> BAD = IllegalArgumentException.class;
  private static final Class<IllegalStateException> STATE = IllegalStateException.class;
  private static final Supplier<Moonwheels> EMPTY = Houses::empty;
  private static final Supplier<Moonwheels> ALMOST = Houses::almost;
  private static final Supplier<Moonwheels> FULL = Houses::full;

  public static void main(String[] args) {
    layArguments();
    marksUntilFull();
    nothingToTakeAway();
    layAnswers();
    marksArguments();
    rows();
    eachChangeTakenBack();
    eleventhChange();
    keptAndTakenBack();
    nothingToTakeBack();
    noChanges();
    houses();
    knocks();
    sounds();
    digests();
    wraps();
    Check.end("HouseEdgesTest");
  }

  // Promise 50: "moment is not -100000 to 100000, or note not NONE to 99"
  private static void layArguments() {
    for (Supplier<Moonwheels> house : List.of(EMPTY, ALMOST)) {
      Check.range("lay moment", BAD, -100000, 100000, house, (x, v) -> x.lay(v, 5));
      Check.range("lay moment, NONE", BAD, -100000, 100000, house, (x, v) -> x.lay(v, -1));
      Check.range("lay note", BAD, -1, 99, house, (x, v) -> x.lay(77, v));
      Check.range("lay note on a MARK", BAD, -1, 99, house, (x, v) -> x.lay(0, v));
      Check.refused("lay, both", BAD, house, x -> x.lay(100001, 100));
    }
    Check.range("lay moment of a full house, NONE", BAD, -100000, 100000, FULL, (x, v) -> x.lay(v, -1));
    Check.range("lay note on a MARK of a full house", BAD, -1, 99, FULL, (x, v) -> x.lay(0, v));
  }

  // "there are 20, none of them is there, and note is not NONE"; the arguments are named first
  private static void marksUntilFull() {
    Moonwheels x = Houses.almost();
    Check.is("19 MARKS", x.house(4), 19);
    Check.is("another note is no 20th", x.lay(0, 44), 4);
    Check.is("still 19", x.house(4), 19);
    Check.is("the 20th", x.lay(-100000, 0), -1);
    Check.is("20 MARKS", x.house(4), 20);
    Check.is("a 21st", Check.thrown(() -> x.lay(100000, 0)), STATE.getName());
    Check.is("another note on one of 20", x.lay(-100000, 99), 0);
    Check.is("NONE where none is", x.lay(100000, -1), -1);
    Check.is("one is taken away", x.lay(-100000, -1), 99);
    Check.is("19 again", x.house(4), 19);
    Check.is("room for another one", x.lay(100000, 99), -1);
    Check.is("a 21st", Check.thrown(() -> x.lay(-100000, 0)), STATE.getName());
    for (int moment : new int[] {-100000, -10, 10, 99999}) {
      for (int note : new int[] {0, 1, 99}) {
        Check.refused("a 21st on " + moment, STATE, FULL, y -> y.lay(moment, note));
      }
      Check.refused("the note first", BAD, FULL, y -> y.lay(moment, 100));
      Check.refused("the note first", BAD, FULL, y -> y.lay(moment, -2));
    }
    Check.refused("the moment first", BAD, FULL, y -> y.lay(100001, 0));
    Check.refused("the moment first", BAD, FULL, y -> y.lay(-100001, 0));
  }

  // "with NONE, takes it away (CHANGE, if there was one)"
  private static void nothingToTakeAway() {
    Moonwheels x = new Moonwheels();
    Check.is("nothing was there", x.lay(5, -1), -1);
    Check.is("no CHANGE", x.house(5), 0);
    x.lay(5, 0);
    Check.is("something was there", x.lay(5, -1), 0);
    Check.is("a CHANGE", x.house(5), 2);
    Check.is("it is not there any more", x.lay(5, -1), -1);
    Check.is("no CHANGE", x.house(5), 2);
    Check.is("undo brings it back", x.undo(), 1);
    Check.is("it is there", x.marks(5, 5), "5:0");
    Moonwheels full = Houses.full();
    for (int moment : new int[] {-100000, -10, 10, 99999}) {
      Check.is("none there", full.lay(moment, -1), -1);
    }
    Check.is("nothing was done", Houses.view(full), Houses.view(Houses.full()));
    Check.is("none of ten CHANGES is forgotten", Houses.undone(full), Houses.undone(Houses.full()));
  }

  // "Returns the note that was there, or NONE."; "one for each" moment
  private static void layAnswers() {
    Moonwheels x = new Moonwheels();
    Check.is("none was there", x.lay(-100000, 0), -1);
    Check.is("the least note was there", x.lay(-100000, 99), 0);
    Check.is("the greatest note was there", x.lay(-100000, 99), 99);
    Check.is("one for each moment", x.house(4), 1);
    Check.is("told as it was is a CHANGE too", x.house(5), 3);
    Check.is("taken away", x.lay(-100000, -1), 99);
    Check.is("none", x.house(4), 0);
    Check.is("none was there", x.lay(100000, 7), -1);
    Check.is("the greatest moment", x.marks(-100000, 100000), "100000:7");
  }

  // Promise 51: "from or to is not -100000 to 100000"
  private static void marksArguments() {
    for (Supplier<Moonwheels> house : List.of(EMPTY, ALMOST, FULL)) {
      Check.range("marks from", BAD, -100000, 100000, house, (x, v) -> x.marks(v, 0));
      Check.range("marks to", BAD, -100000, 100000, house, (x, v) -> x.marks(0, v));
      refusedMarks(house, x -> x.marks(100001, -100001));
    }
  }

  private static void refusedMarks(Supplier<Moonwheels> house, Consumer<Moonwheels> run) {
    Check.refused("marks, both", BAD, house, run);
  }

  // "first '<', the last one of these, and ' ' (also if nothing comes behind it)"; "none, if to is below from"
  private static void rows() {
    Moonwheels x = new Moonwheels();
    Check.is("no MARKS at all", x.marks(-100000, 100000), "");
    Check.is("no MARKS at all, to below from", x.marks(100000, -100000), "");
    x.lay(-100000, 0);
    Check.is("one, both moments its own", x.marks(-100000, -100000), "-100000:0");
    Check.is("one below", x.marks(-99999, -99999), "<-100000:0 ");
    Check.is("one below, to below from", x.marks(-99999, -100000), "<-100000:0 ");
    x.lay(100000, 99);
    x.lay(0, 5);
    x.lay(1, 6);
    Check.is("all, both ends with it", x.marks(-100000, 100000), "-100000:0 0:5 1:6 100000:99");
    Check.is("without the last", x.marks(-100000, 99999), "-100000:0 0:5 1:6");
    Check.is("the first is below", x.marks(-99999, 100000), "<-100000:0 0:5 1:6 100000:99");
    Check.is("on from is not below from", x.marks(0, 0), "<-100000:0 0:5");
    Check.is("the last one below, not the first", x.marks(1, 1), "<0:5 1:6");
    Check.is("nothing behind it", x.marks(2, 99999), "<1:6 ");
    Check.is("the greatest both", x.marks(100000, 100000), "<1:6 100000:99");
    Check.is("to below from by one, a MARK on each", x.marks(1, 0), "<0:5 ");
    Check.is("to below from, none below from", x.marks(-100000, -100000 + 0), "-100000:0");
    Check.is("to far below from", x.marks(100000, -100000), "<1:6 ");
    StringBuilder due = new StringBuilder();
    Moonwheels full = new Moonwheels();
    for (int i = 0; i < 20; i++) {
      full.lay(95 - i * 5, i);
      due.append(i == 0 ? "" : " ").append(i * 5).append(':').append(19 - i);
    }
    Check.is("20 MARKS, the last laid first", full.marks(-100000, 100000), due.toString());
    Check.is("behind 20", full.marks(96, 100000), "<95:0 ");
  }

  private static final String[] KINDS = {"cut", "body", "retell", "retell as it was", "sun", "moon", "sky",
      "sky as it was", "swing", "share", "share as it was", "port", "port as it was", "rise", "rise as it was",
      "pieces", "pieces as it was", "lay", "lay on one that is there", "lay as it was", "lay NONE", "the first sky"};

  private static void change(Moonwheels x, int kind) {
    switch (kind) {
      case 0: x.cut(25); break;
      case 1: x.body(77, -9, 7); break;
      case 2: x.retell(1, 2, 1); break;
      case 3: x.retell(1, 12, 5); break;
      case 4: x.sun(300, 2, 9, 4, 11); break;
      case 5: x.moon(61, 3, 4, 11, 2); break;
      case 6: x.sky(100, 1000, 0, 200); break;
      case 7: x.sky(10, 132, -2, 60); break;
      case 8: x.swing(7, 2); break;
      case 9: x.share(1, 2, -44); break;
      case 10: x.share(1, 2, 7); break;
      case 11: x.port(-3); break;
      case 12: x.port(2); break;
      case 13: x.rise(4, 9876); break;
      case 14: x.rise(4, 300 + 77 * 4); break;
      case 15: x.pieces(17); break;
      case 16: x.pieces(29); break;
      case 17: x.lay(-50, 9); break;
      case 18: x.lay(0, 9); break;
      case 19: x.lay(0, 4); break;
      case 20: x.lay(0, -1); break;
      default: x.sky(1, 2, 3, 4); break;
    }
  }

  /** An empty house for the first SKY, the one with a place left of each thing for all others. */
  private static Moonwheels before(int kind) {
    return kind == KINDS.length - 1 ? new Moonwheels() : Houses.almost();
  }

  private static Moonwheels behind(int kind) {
    Moonwheels x = before(kind);
    change(x, kind);
    return x;
  }

  // Promise 52: "Takes the last CHANGE back"; "(also if all is told as it was)"
  private static void eachChangeTakenBack() {
    for (int kind = 0; kind < KINDS.length; kind++) {
      Moonwheels x = before(kind);
      int kept = x.house(5);
      change(x, kind);
      Check.is(KINDS[kind] + " is kept", x.house(5), Math.min(10, kept + 1));
      Check.is(KINDS[kind] + " is taken back", x.undo(), Math.min(10, kept + 1) - 1);
      Check.is(KINDS[kind] + ": as it was", Houses.told(x), Houses.told(before(kind)));
      boolean isSame = KINDS[kind].endsWith("as it was");
      Check.is(KINDS[kind] + ": it was seen", Houses.told(behind(kind)).equals(Houses.told(before(kind))), isSame);
    }
  }

  // "10 at most, with an eleventh the oldest one is forgotten for good"
  private static void eleventhChange() {
    for (int kind = 0; kind < KINDS.length; kind++) {
      Check.is(KINDS[kind] + " with nine behind it", Houses.told(back(kind, 9)), Houses.told(before(kind)));
      Check.is(KINDS[kind] + " with ten behind it", Houses.told(back(kind, 10)), Houses.told(behind(kind)));
      Moonwheels x = back(kind, 10);
      Check.is(KINDS[kind] + " is forgotten", Check.thrown(() -> x.undo()), STATE.getName());
      x.rise(7, 1);
      Check.is(KINDS[kind] + ": one behind the forgotten one", x.undo(), 0);
      Check.is(KINDS[kind] + " is forgotten for good", Check.thrown(() -> x.undo()), STATE.getName());
      Check.is(KINDS[kind] + " stays", Houses.told(x), Houses.told(behind(kind)));
    }
  }

  /** The CHANGE, so many others behind it, and ten taken back. */
  private static Moonwheels back(int kind, int others) {
    Moonwheels x = behind(kind);
    for (int i = 0; i < others; i++) {
      x.rise(i % 3, 1000 + i);
    }
    Check.is("ten are kept", x.house(5), 10);
    for (int left = 9; left >= 0; left--) {
      Check.is("left", x.undo(), left);
    }
    return x;
  }

  // "those that are not taken back are kept"
  private static void keptAndTakenBack() {
    Moonwheels x = new Moonwheels();
    List<Integer> values = new ArrayList<>(List.of(0));
    int kept = 0;
    int value = 0;
    // How many CHANGES, then how many are taken back, again and again: over the end of ten, and around it.
    int[] steps = {10, -3, 3, -10, 9, -1, 2, -4, 5, 1, -1, 1, -10, 25, -9, 1, -2, 11, -10};
    for (int step : steps) {
      for (int i = 0; i < step; i++) {
        value++;
        Check.is("the one before", x.rise(0, value), values.get(values.size() - 1));
        values.add(value);
        kept = Math.min(10, kept + 1);
        Check.is("house(5)", x.house(5), kept);
      }
      for (int i = 0; i > step; i--) {
        kept--;
        Check.is("undo", x.undo(), kept);
        values.remove(values.size() - 1);
        Check.is("the one ahead", x.rising(0), values.get(values.size() - 1));
      }
    }
    Check.is("all are taken back", x.house(5), 0);
    Check.is("no more", Check.thrown(() -> x.undo()), STATE.getName());
  }

  // "if there is none"
  private static void nothingToTakeBack() {
    Check.refused("a new object", STATE, EMPTY, x -> x.undo());
    Check.refused("one CHANGE taken back", STATE, () -> undone(1), x -> x.undo());
    Check.refused("ten CHANGES taken back", STATE, () -> undone(10), x -> x.undo());
    Check.refused("ten of eleven CHANGES taken back", STATE, () -> undone(11), x -> x.undo());
    Check.refused("a full house, ten taken back", STATE, HouseEdgesTest::fullUndone, x -> x.undo());
    Check.refused("but knocked", STATE, HouseEdgesTest::knocked, x -> x.undo());
    Check.is("ten of eleven are taken back: the first stays", undone(11).rising(0), 1);
    Check.is("ten of ten", undone(10).rising(0), 0);
  }

  private static Moonwheels undone(int changes) {
    Moonwheels x = new Moonwheels();
    for (int i = 0; i < changes; i++) {
      x.rise(0, i + 1);
    }
    for (int i = 0; i < Math.min(10, changes); i++) {
      x.undo();
    }
    return x;
  }

  private static Moonwheels fullUndone() {
    Moonwheels x = Houses.full();
    for (int i = 0; i < 10; i++) {
      x.undo();
    }
    return x;
  }

  private static Moonwheels knocked() {
    Moonwheels x = new Moonwheels();
    x.knock();
    return x;
  }

  /** Calls that are not said to CHANGE: nothing is kept, and nothing is forgotten. */
  private static void noChanges() {
    Moonwheels x = Houses.full();
    x.parts(355, 113);
    x.convergent(355, 113, 1);
    x.middles(355, 113);
    x.near(355, 113, 1);
    x.nears(355, 113);
    x.nearest(355, 113, 50);
    x.below(355, 113, 50);
    x.above(355, 113, 50);
    x.train(355, 113, 2);
    x.trainError(355, 113, 2);
    x.planets(24, 72, 2);
    x.nextOf(0, 5);
    x.aheadOf(0, 5);
    x.many(0, 5, 50);
    x.meet(63, 0);
    x.meet(9, 5);
    x.again(63);
    x.window(3, 5);
    x.event(5, 30);
    x.inverse(7, 26);
    x.yearBegin(1, 4);
    x.isLeap(1, 4);
    x.leaps(1, 4, 5);
    x.drift(1, 4);
    x.dayOf(1, 2, 13, 1);
    x.date(3, 1234);
    x.turned(0, 1, 4, 5, 6);
    x.civil(99);
    x.fromCivil(2026, 11, 19);
    x.feast(0, 4, 5, 1, 0);
    x.eclipse(7);
    x.eclipses(7, 70);
    x.skySlip(7);
    x.height(7);
    x.tide(7, true);
    x.table(7, 9);
    x.tideRound();
    x.rising(7);
    x.marks(7, 70);
    x.house(5);
    x.isSound();
    x.digest();
    Check.is("ten are kept", x.house(5), 10);
    Check.is("nothing was changed", Houses.view(x), Houses.view(Houses.full()));
    Check.is("all can be taken back", Houses.undone(x), Houses.undone(Houses.full()));
    Moonwheels y = Houses.full();
    y.knock();
    Check.is("to knock is no CHANGE", y.house(5), 10);
    Check.is("so undo takes the MARK back", y.undo(), 9);
    Check.is("the MARK is gone", y.house(4), 19);
    Check.is("the knock stays", y.house(6), 2);
  }

  // Promise 53: "what is not 0 to 6"
  private static void houses() {
    int[] empty = {0, 0, 0, 0, 0, 0, 0};
    int[] almost = {7, 5, 3, 2, 19, 10, 1};
    int[] full = {8, 6, 4, 3, 20, 10, 1};
    for (int what = 0; what <= 6; what++) {
      Check.is("empty, house(" + what + ")", Houses.empty().house(what), empty[what]);
      Check.is("almost full, house(" + what + ")", Houses.almost().house(what), almost[what]);
      Check.is("full, house(" + what + ")", Houses.full().house(what), full[what]);
    }
    for (Supplier<Moonwheels> house : List.of(EMPTY, ALMOST, FULL)) {
      Check.range("house what", BAD, 0, 6, house, (x, v) -> x.house(v));
    }
  }

  // Promise 54: "with this"
  private static void knocks() {
    Moonwheels x = new Moonwheels();
    Check.is("none yet", x.house(6), 0);
    Check.is("the first, with this", x.knock(), 1);
    Check.is("the second", x.knock(), 2);
    Check.is("house(6)", x.house(6), 2);
    Check.is("undo does not reach it", Check.thrown(() -> x.undo()), STATE.getName());
    Check.is("house(6)", x.house(6), 2);
    Check.is("another object has its own", new Moonwheels().knock(), 1);
  }

  // Promise 55: "also if m is above 100000"; without anything; years -20 to 20
  private static void sounds() {
    Check.is("empty", new Moonwheels().isSound(), true);
    Check.is("almost full", Houses.almost().isSound(), true);
    Check.is("full", Houses.full().isSound(), true);
    Moonwheels x = new Moonwheels();
    x.body(5000, 1, 0);
    Check.is("one BODY has no pair", x.isSound(), true);
    x.body(4999, 0, 0);
    Check.is("they first meet at 24990001", x.isSound() && x.meet(3, 0).equals("24990001"), true);
    x.body(5000, 2, 0);
    Check.is("and two that never meet", x.isSound() && x.meet(7, 0).equals("never 0 2"), true);
    x.body(5000, -10000, 4999);
    x.body(5000, 10000, 0);
    Check.is("beginnings far apart", x.isSound(), true);
    Moonwheels y = new Moonwheels();
    y.sun(20, 0, 1, 0, 20);
    y.sun(500, 499, 500, 499, 1);
    y.moon(5, 1, 0, 1, 0);
    y.moon(599940, 9999, 499, 500, 499);
    Check.is("CALENDARS of least and greatest numbers", y.isSound(), true);
    y.sky(1, 2, 1000, 0);
    Check.is("the longest round of the SKY", y.isSound(), true);
    y.sky(5, 1205, 5, 900);
    Check.is("the shortest round of the SKY", y.isSound(), true);
    y.swing(11, -1000);
    y.swing(10, 1000);
    y.swing(9, 0);
    y.share(0, 10, 99);
    y.share(1, 9, -99);
    y.share(2, 8, 1);
    Check.is("the longest round of the tide", y.isSound(), true);
  }

  // Promise 56, by the answers of the calls that it names
  private static void digests() {
    List<Supplier<Moonwheels>> houses = List.of(EMPTY, ALMOST, FULL, HouseEdgesTest::fullUndone,
        HouseEdgesTest::knocked, HouseEdgesTest::bodiesOnly, HouseEdgesTest::oneBody, () -> undone(11));
    for (Supplier<Moonwheels> house : houses) {
      Moonwheels x = house.get();
      long before = x.digest();
      Check.is("digest()", before, due(x));
      Check.is("digest() once more", x.digest(), before);
    }
    for (int kind = 0; kind < KINDS.length; kind++) {
      Moonwheels x = behind(kind);
      Check.is("digest() behind " + KINDS[kind], x.digest(), due(x));
    }
  }

  private static Moonwheels bodiesOnly() {
    Moonwheels x = new Moonwheels();
    x.body(4, 0, 0);
    x.body(6, 1, 0);
    return x;
  }

  private static Moonwheels oneBody() {
    Moonwheels x = new Moonwheels();
    x.body(4999, -1, 0);
    return x;
  }

  private static long due(Moonwheels x) {
    long d = 6602;
    for (int what = 0; what <= 6; what++) {
      d = d * 31 + x.house(what);
    }
    int bodies = x.house(1);
    for (int i = 0; i < bodies; i++) {
      d = d * 31 + x.nextOf(i, 0);
      d = d * 31 + x.aheadOf(i, 0);
    }
    if (bodies > 0) {
      d = signs(d, x.again((1 << bodies) - 1));
      d = signs(d, x.meet((1 << bodies) - 1, 0));
    }
    for (int i = 0; i < x.house(2); i++) {
      for (int year : new int[] {-50, 0, 50}) {
        d = d * 31 + x.yearBegin(i, year);
        d = d * 31 + x.leaps(i, year, 100);
      }
      for (int day : new int[] {-1000, 0, 1000}) {
        d = signs(d, x.date(i, day));
      }
    }
    if (Check.thrown(() -> x.skySlip(0)).equals("nothing")) {
      d = d * 31 + x.eclipses(0, 1000);
    }
    d = d * 31 + x.tideRound();
    for (int t = 0; t <= 11; t++) {
      d = d * 31 + x.height(t);
    }
    for (int day : new int[] {0, 45, 90, 135, 180, 225, 270, 315, 360}) {
      d = d * 31 + x.rising(day);
    }
    d = signs(d, x.marks(-100000, 100000));
    return d * 31 + (x.isSound() ? 1 : 0);
  }

  private static long signs(long d, String text) {
    long mix = d;
    for (char c : text.toCharArray()) {
      mix = mix * 31 + c;
    }
    return mix;
  }

  // "which wraps around as a 64-bit integer"
  private static void wraps() {
    java.math.BigInteger d = java.math.BigInteger.valueOf(6602);
    java.math.BigInteger times = java.math.BigInteger.valueOf(31);
    int[] values = new int[7 + 1 + 12 + 9 + 1];
    values[7] = 1;
    values[values.length - 1] = 1;
    for (int v : values) {
      d = d.multiply(times).add(java.math.BigInteger.valueOf(v));
    }
    Check.is("it goes beyond 64 bits", d.bitLength() > 64, true);
    Check.is("the low 64 bits of it", new Moonwheels().digest(), d.longValue());
  }
}
