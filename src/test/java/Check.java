import java.util.function.Consumer;
import java.util.function.Supplier;

/** What the tests share: due answers, due exceptions, and the end with exit code 1 if one was wrong. */
final class Check {
  /** A call with one argument at an edge. */
  interface Call {
    void on(Moonwheels x, int value);
  }

  private static int wrong = 0;
  private static int seen = 0;

  private Check() {}

  static void is(String call, Object got, Object want) {
    seen++;
    if (!want.equals(got)) {
      wrong++;
      System.out.println(call + " answered " + got + ", due is " + want);
    }
  }

  /** Just this exception is due (no subclass), and the object must answer as before it. */
  static void no(String call, Moonwheels x, Class<? extends RuntimeException> due, Runnable run) {
    long before = x.digest();
    is(call, thrown(run), due.getName());
    is(call + " and then digest()", x.digest(), before);
  }

  /** Just this exception is due, and all that can be seen and undone is as in a twin that never got the call. */
  static void refused(String call, Class<? extends RuntimeException> due, Supplier<Moonwheels> house,
      Consumer<Moonwheels> run) {
    Moonwheels x = house.get();
    Moonwheels twin = house.get();
    is(call, thrown(() -> run.accept(x)), due.getName());
    is(call + ": the house behind it", Houses.view(x), Houses.view(twin));
    is(call + ": what can be undone behind it", Houses.undone(x), Houses.undone(twin));
  }

  /** The least and the greatest value are taken; those just outside, and those far outside, are refused. */
  static void range(String call, Class<? extends RuntimeException> due, int least, int most,
      Supplier<Moonwheels> house, Call run) {
    for (int value : new int[] {least, most}) {
      Moonwheels x = house.get();
      is(call + " of " + value, thrown(() -> run.on(x, value)), "nothing");
    }
    for (int value : new int[] {least - 1, most + 1, Integer.MIN_VALUE, Integer.MAX_VALUE}) {
      refused(call + " of " + value, due, house, x -> run.on(x, value));
    }
  }

  static String thrown(Runnable run) {
    try {
      run.run();
    } catch (RuntimeException e) {
      return e.getClass().getName();
    }
    return "nothing";
  }

  static void end(String name) {
    System.out.println(name + ": " + seen + " answers, " + wrong + " wrong");
    if (wrong != 0) {
      System.exit(1);
    }
  }
}
