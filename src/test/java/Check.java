/** What the tests share: due answers, due exceptions, and the end with exit code 1 if one was wrong. */
final class Check {
  private static int wrong = 0;
  private static int seen = 0;

  private Check() {}

  static void is(String call, Object got, Object want) {
    seen++;
    if (!want.equals(got)) {
      wrong++;
      System.out.println(call + " answered " + got + ", due is " + want);
    }
  }

  /** Just this exception is due (no subclass), and the object must answer as before it. */
  static void no(String call, Moonwheels x, Class<? extends RuntimeException> due, Runnable run) {
    long before = x.digest();
    is(call, thrown(run), due.getName());
    is(call + " and then digest()", x.digest(), before);
  }

  private static String thrown(Runnable run) {
    try {
      run.run();
    } catch (RuntimeException e) {
      return e.getClass().getName();
    }
    return "nothing";
  }

  static void end(String name) {
    System.out.println(name + ": " + seen + " answers, " + wrong + " wrong");
    if (wrong != 0) {
      System.exit(1);
    }
  }
}
