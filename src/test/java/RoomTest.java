import java.lang.management.ManagementFactory;
import java.util.function.Consumer;
import java.util.function.Supplier;

/**
 * All calls of one run live in one room that is never swept: some 600,000 objects and 7.3 million fields and elements.
 * An object takes 16 bytes at least and an element one, so a run that takes fewer than 7.3 million bytes fits in.
 */
public final class RoomTest {
  private static final int CALLS = 512;
  private static final long ROOM = 7_300_000;
  private static final com.sun.management.ThreadMXBean TAKEN =
      (com.sun.management.ThreadMXBean) ManagementFactory.getThreadMXBean();

  public static void main(String[] args) {
    fractions();
    wheels();
    bodies();
    calendars();
    skyAndTides();
    house();
    Check.end("RoomTest");
  }

  /** The house with all its calls, the same one again and again. */
  private static void run(String call, Consumer<Moonwheels> one) {
    run(call, Houses::full, one);
  }

  private static void run(String call, Supplier<Moonwheels> house, Consumer<Moonwheels> one) {
    long before = TAKEN.getThreadAllocatedBytes(Thread.currentThread().getId());
    Moonwheels x = house.get();
    for (int i = 0; i < CALLS; i++) {
      one.accept(x);
    }
    long taken = TAKEN.getThreadAllocatedBytes(Thread.currentThread().getId()) - before;
    Check.is(call + " fits into the room: " + taken, taken > 0 && taken < ROOM, true);
  }

  private static void fractions() {
    run("parts", x -> x.parts(4181, 6765));
    run("convergent", x -> x.convergent(4181, 6765, 18));
    run("middles", x -> x.middles(4181, 6765));
    run("near", x -> x.near(1, 9999, 5000));
    run("nears", x -> x.nears(9998, 9999));
    run("nearest", x -> x.nearest(9998, 9999, 9999));
    run("below", x -> x.below(9998, 9999, 9999));
    run("above", x -> x.above(9998, 9999, 9999));
    run("inverse", x -> x.inverse(6765, 4181));
  }

  private static void wheels() {
    run("cut and undo", Houses::almost, x -> {
      x.cut(97);
      x.undo();
    });
    run("train", x -> x.train(355, 113, 3));
    run("trainError", x -> x.trainError(355, 113, 3));
    run("planets", x -> x.planets(119, 399, 2));
  }

  private static void bodies() {
    Supplier<Moonwheels> six = () -> {
      Moonwheels x = new Moonwheels();
      for (int round : new int[] {5000, 4999, 4997, 4993, 4987, 4973}) {
        x.body(round, round % 100, 0);
      }
      return x;
    };
    run("retell", x -> x.retell(0, 5000, -10000));
    run("nextOf", x -> x.nextOf(5, 100000));
    run("aheadOf", x -> x.aheadOf(5, -100000));
    run("many", x -> x.many(5, -100000, 100000));
    run("meet", six, x -> x.meet(63, -100000));
    run("again", six, x -> x.again(63));
    run("window", six, x -> x.window(63, -100000));
    run("event", six, x -> x.event(-100000, 30));
    run("digest of six", six, x -> x.digest());
  }

  private static void calendars() {
    run("sun and undo", Houses::almost, x -> {
      x.sun(365, 1, 4, 0, 12);
      x.undo();
    });
    run("moon and undo", Houses::almost, x -> {
      x.moon(59, 2, 7, 19, 0);
      x.undo();
    });
    run("yearBegin", x -> x.yearBegin(3, -3000));
    run("leaps", x -> x.leaps(3, -3000, 1000));
    run("drift", x -> x.drift(3, -3000));
    run("dayOf", x -> x.dayOf(0, -3000, 12, 31));
    run("date", x -> x.date(3, -1000000));
    run("turned", x -> x.turned(0, 3, -3000, 12, 31));
    run("civil", x -> x.civil(-1000000));
    run("fromCivil", x -> x.fromCivil(-700, 12, 31));
    run("feast", x -> x.feast(0, -3000, 12, 5, 0));
  }

  private static void skyAndTides() {
    run("sky", x -> x.sky(1, 2, 1000, 900));
    run("eclipse", x -> x.eclipse(-100000));
    run("eclipses", x -> x.eclipses(-100000, 5000));
    run("skySlip", x -> x.skySlip(100000));
    run("share", x -> x.share(2, 4, -99));
    run("port", x -> x.port(-500));
    run("height", x -> x.height(-100000));
    run("tide", x -> x.tide(-100000, true));
    run("table", x -> x.table(-100000, 9));
    run("rise", x -> x.rise(11, -9999));
    run("pieces", x -> x.pieces(60));
    run("rising", x -> x.rising(-100000));
  }

  private static void house() {
    run("lay", x -> x.lay(100000, 99));
    run("marks", x -> x.marks(-100000, 100000));
    run("isSound", x -> x.isSound());
    run("digest", x -> x.digest());
    run("knock", x -> x.knock());
    run("refused", x -> Check.thrown(() -> x.house(7)));
  }
}
