import java.util.function.Consumer;
import java.util.function.Supplier;

/** Each sentence of promises 1 to 9, and 23, that names an edge. */
public final class FractionEdgesTest {
  private static final Class<IllegalArgumentException> BAD = IllegalArgumentException.class;
  private static final Supplier<Moonwheels> EMPTY = Houses::empty;
  private static final Supplier<Moonwheels> FULL = Houses::full;

  public static void main(String[] args) {
    newObject();
    calls();
    fractionArguments();
    parts();
    convergents();
    middles();
    nearOnes();
    nears();
    nearests();
    belows();
    aboves();
    inverses();
    Check.end("FractionEdgesTest");
  }

  // Promise 1: "without wheels, bodies, calendars, sky and tides."
  private static void newObject() {
    for (int what = 0; what <= 6; what++) {
      Check.is("house(" + what + ") of a new object", new Moonwheels().house(what), 0);
    }
    Check.refused("a new object has nothing CUT", IllegalStateException.class, EMPTY, x -> x.train(1, 1, 1));
    Check.refused("a new object has no BODY", IndexOutOfBoundsException.class, EMPTY, x -> x.nextOf(0, 0));
    Check.refused("a new object has no CALENDAR", IndexOutOfBoundsException.class, EMPTY, x -> x.yearBegin(0, 0));
    Check.refused("a new object has no SKY", IllegalStateException.class, EMPTY, x -> x.skySlip(0));
    Check.refused("a new object has no SWING", IndexOutOfBoundsException.class, EMPTY, x -> x.share(0, 0, 0));
    Check.refused("a new object has no CHANGE", IllegalStateException.class, EMPTY, x -> x.undo());
    Check.is("no MARKS", new Moonwheels().marks(-100000, 100000), "");
    Check.is("the delay is 0 at first", new Moonwheels().port(1), 0);
    Check.is("a piece has 30 days at first", new Moonwheels().pieces(1), 30);
    for (int k = 0; k < 12; k++) {
      Check.is("number " + k + " of RISING is 0 at first", new Moonwheels().rise(k, 1), 0);
    }
    Moonwheels other = Houses.full();
    Check.is("objects share nothing", Houses.view(new Moonwheels()), Houses.view(new Moonwheels()));
    Check.is("objects share nothing", Houses.view(other), Houses.view(Houses.full()));
  }

  // "An object is used for at most 512 calls after it has been made"
  private static void calls() {
    Moonwheels x = new Moonwheels();
    for (int call = 1; call <= 256; call++) {
      Check.is("knock " + call, x.knock(), call);
      Check.is("lay " + call, x.lay(call % 20, call % 100), call <= 20 ? -1 : (call - 20) % 100);
    }
    Moonwheels y = new Moonwheels();
    for (int call = 1; call <= 511; call++) {
      y.knock();
    }
    Check.is("the 512th call", y.house(6), 511);
  }

  /** "top or bottom is not 1 to 9999" of all that ask a fraction; 0, 10000 and far outside. */
  private static void fractionArguments() {
    for (Supplier<Moonwheels> house : java.util.List.of(EMPTY, FULL)) {
      asked("parts top", house, (x, v) -> x.parts(v, 9));
      asked("parts bottom", house, (x, v) -> x.parts(9, v));
      asked("convergent top", house, (x, v) -> x.convergent(v, 9, 0));
      asked("convergent bottom", house, (x, v) -> x.convergent(9, v, 0));
      asked("middles top", house, (x, v) -> x.middles(v, 9));
      asked("middles bottom", house, (x, v) -> x.middles(9, v));
      asked("near top", house, (x, v) -> x.near(v, 9, 0));
      asked("near bottom", house, (x, v) -> x.near(9, v, 0));
      asked("nears top", house, (x, v) -> x.nears(v, 9));
      asked("nears bottom", house, (x, v) -> x.nears(9, v));
      asked("nearest top", house, (x, v) -> x.nearest(v, 9, 5));
      asked("nearest bottom", house, (x, v) -> x.nearest(9, v, 5));
      asked("nearest most", house, (x, v) -> x.nearest(9, 5, v));
      asked("below top", house, (x, v) -> x.below(v, 9, 5));
      asked("below bottom", house, (x, v) -> x.below(9, v, 5));
      asked("below most", house, (x, v) -> x.below(9, 5, v));
      asked("above top", house, (x, v) -> x.above(v, 9, 5));
      asked("above bottom", house, (x, v) -> x.above(9, v, 5));
      asked("above most", house, (x, v) -> x.above(9, 5, v));
    }
  }

  private static void asked(String call, Supplier<Moonwheels> house, Check.Call run) {
    Check.range(call, BAD, 1, 9999, house, run);
  }

  /** Refused by an empty house and by a full one. */
  private static void bad(String call, Consumer<Moonwheels> run) {
    Check.refused(call, BAD, EMPTY, run);
    Check.refused(call, BAD, FULL, run);
  }

  // Promise 2
  private static void parts() {
    Moonwheels x = new Moonwheels();
    Check.is("the first alone", x.parts(1, 1), "1");
    Check.is("the first alone, as the fraction is whole", x.parts(9999, 1), "9999");
    Check.is("nothing is left", x.parts(9999, 9999), "1");
    Check.is("the floor is 0", x.parts(1, 9999), "0;9999");
    Check.is("';' and no ','", x.parts(1, 2), "0;2");
    Check.is("';' and ','", x.parts(9998, 9999), "0;1,9998");
    Check.is("just above 1", x.parts(9999, 9998), "1;9998");
    Check.is("the greatest one with a half", x.parts(9999, 2), "4999;2");
    Check.is("not in lowest terms", x.parts(6, 4), "1;2");
    Check.is("the most PARTS", x.parts(6765, 4181), "1;1,1,1,1,1,1,1,1,1,1,1,1,1,1,1,1,2");
    Check.is("and below 1", x.parts(4181, 6765), "0;1,1,1,1,1,1,1,1,1,1,1,1,1,1,1,1,1,2");
  }

  // Promise 3: "- if there is none", "k is below 0"
  private static void convergents() {
    Moonwheels x = new Moonwheels();
    Check.is("a whole one has number 0", x.convergent(9999, 1, 0), "9999/1");
    Check.is("and none behind it", x.convergent(9999, 1, 1), "-");
    Check.is("0 is 0/1", x.convergent(1, 9999, 0), "0/1");
    Check.is("the last one", x.convergent(1, 9999, 1), "1/9999");
    Check.is("one farther", x.convergent(1, 9999, 2), "-");
    Check.is("of 1", x.convergent(1, 1, 0), "1/1");
    Check.is("of 1, one farther", x.convergent(1, 1, 1), "-");
    Check.is("of 9999 / 9999", x.convergent(9999, 9999, 0), "1/1");
    Check.is("of 9999 / 9999, one farther", x.convergent(9999, 9999, 1), "-");
    Check.is("the last one in lowest terms", x.convergent(6, 4, 1), "3/2");
    Check.is("just below 1: the second", x.convergent(9998, 9999, 1), "1/1");
    Check.is("just below 1: the last", x.convergent(9998, 9999, 2), "9998/9999");
    Check.is("just below 1: one farther", x.convergent(9998, 9999, 3), "-");
    Check.is("the most PARTS, the last", x.convergent(4181, 6765, 18), "4181/6765");
    Check.is("the most PARTS, one farther", x.convergent(4181, 6765, 19), "-");
    Check.is("the greatest k", x.convergent(4181, 6765, Integer.MAX_VALUE), "-");
    bad("convergent k = -1", y -> y.convergent(1, 1, -1));
    bad("convergent k = least", y -> y.convergent(1, 1, Integer.MIN_VALUE));
  }

  // Promise 4: "'' for 1 / 1"
  private static void middles() {
    Moonwheels x = new Moonwheels();
    Check.is("1 / 1", x.middles(1, 1), "");
    Check.is("9999 / 9999 is 1 / 1", x.middles(9999, 9999), "");
    Check.is("one step right", x.middles(2, 1), "R1");
    Check.is("one step left", x.middles(1, 2), "L1");
    Check.is("all right", x.middles(9999, 1), "R9998");
    Check.is("all left", x.middles(1, 9999), "L9998");
    Check.is("just above 1", x.middles(9999, 9998), "R1L9997");
    Check.is("just below 1", x.middles(9998, 9999), "L1R9997");
    Check.is("not in lowest terms", x.middles(9, 6), "R1L1");
    Check.is("runs of 1", x.middles(5, 8), "L1R1L1R1");
    Check.is("runs of more", x.middles(355, 113), "R3L7R15");
  }

  // Promise 5: "- if there is none", "k is below 0"
  private static void nearOnes() {
    Moonwheels x = new Moonwheels();
    Check.is("the first one of a whole one is itself", x.near(9999, 1, 0), "9999/1");
    Check.is("and none behind it", x.near(9999, 1, 1), "-");
    Check.is("of 1", x.near(1, 1, 0), "1/1");
    Check.is("of 1, one farther", x.near(1, 1, 1), "-");
    Check.is("of 9999 / 9999", x.near(9999, 9999, 0), "1/1");
    Check.is("of 9999 / 9999, one farther", x.near(9999, 9999, 1), "-");
    Check.is("0/1 and 1/1 are as far: neither is NEAR", x.near(1, 2, 0), "1/2");
    Check.is("so there is but one", x.near(1, 2, 1), "-");
    Check.is("a whole one and the next are as far", x.near(9999, 2, 0), "9999/2");
    Check.is("so there is but one", x.near(9999, 2, 1), "-");
    Check.is("a from 0 on", x.near(1, 3, 0), "0/1");
    Check.is("0/1 is as far as 1/2: that is not NEAR", x.near(1, 4, 1), "1/3");
    Check.is("the last one", x.near(1, 4, 2), "1/4");
    Check.is("one farther", x.near(1, 4, 3), "-");
    Check.is("the last of many", x.near(1, 9999, 5000), "1/9999");
    Check.is("one farther", x.near(1, 9999, 5001), "-");
    Check.is("the last of most below 1", x.near(9998, 9999, 5000), "9998/9999");
    Check.is("one farther", x.near(9998, 9999, 5001), "-");
    Check.is("the greatest k", x.near(9998, 9999, Integer.MAX_VALUE), "-");
    Check.is("in lowest terms, the last", x.near(4, 6, 2), "2/3");
    Check.is("in lowest terms, one farther", x.near(4, 6, 3), "-");
    bad("near k = -1", y -> y.near(1, 1, -1));
    bad("near k = least", y -> y.near(1, 1, Integer.MIN_VALUE));
  }

  // Promise 6
  private static void nears() {
    Moonwheels x = new Moonwheels();
    Check.is("nears(1, 1)", x.nears(1, 1), 1);
    Check.is("nears(9999, 1)", x.nears(9999, 1), 1);
    Check.is("nears(1, 2)", x.nears(1, 2), 1);
    Check.is("nears(9999, 2)", x.nears(9999, 2), 1);
    Check.is("nears(9999, 9999)", x.nears(9999, 9999), 1);
    Check.is("nears(1, 3)", x.nears(1, 3), 3);
    Check.is("nears(1, 4)", x.nears(1, 4), 3);
    Check.is("nears(1, 9999)", x.nears(1, 9999), 5001);
    Check.is("nears(1, 9998)", x.nears(1, 9998), 5000);
    Check.is("nears(9998, 9999)", x.nears(9998, 9999), 5001);
    Check.is("nears(4, 6)", x.nears(4, 6), 3);
  }

  // Promise 7: "of several that with the smallest lower number, then the smaller one"; "from 0/1 on"
  private static void nearests() {
    Moonwheels x = new Moonwheels();
    Check.is("most 1, itself", x.nearest(1, 1, 1), "1/1");
    Check.is("most 9999, itself", x.nearest(9999, 9999, 9999), "1/1");
    Check.is("most 9999, itself", x.nearest(9998, 9999, 9999), "9998/9999");
    Check.is("one lower number too few", x.nearest(9998, 9999, 9998), "9997/9998");
    Check.is("the greatest one", x.nearest(9999, 1, 1), "9999/1");
    Check.is("the greatest one", x.nearest(9999, 1, 9999), "9999/1");
    Check.is("0/1 is the nearest", x.nearest(1, 9999, 1), "0/1");
    Check.is("0/1 is still nearer than 1/4999", x.nearest(1, 9999, 4999), "0/1");
    Check.is("1/5000 is nearer", x.nearest(1, 9999, 5000), "1/5000");
    Check.is("0/1 and 1/1 are as near: the smaller one", x.nearest(1, 2, 1), "0/1");
    Check.is("1/1 and 2/1 are as near: the smaller one", x.nearest(3, 2, 1), "1/1");
    Check.is("4999/1 and 5000/1 are as near: the smaller one", x.nearest(9999, 2, 1), "4999/1");
    Check.is("0/1 and 1/2 are as near: the smallest lower number", x.nearest(1, 4, 2), "0/1");
    Check.is("1/1 and 1/2 are as near: the smallest lower number", x.nearest(3, 4, 2), "1/1");
    Check.is("1/1 and 3/2 are as near: the smallest lower number", x.nearest(5, 4, 2), "1/1");
    Check.is("in lowest terms", x.nearest(6, 4, 9999), "3/2");
    Check.is("with just the lower number", x.nearest(6, 4, 2), "3/2");
  }

  // Promise 8: "not above the asked one", so it may be the asked one
  private static void belows() {
    Moonwheels x = new Moonwheels();
    Check.is("most 1, itself", x.below(1, 1, 1), "1/1");
    Check.is("most 1, whole", x.below(9999, 1, 1), "9999/1");
    Check.is("most 9999, whole", x.below(9999, 1, 9999), "9999/1");
    Check.is("nothing but 0/1", x.below(1, 9999, 1), "0/1");
    Check.is("nothing but 0/1, the most", x.below(1, 9999, 9998), "0/1");
    Check.is("with just the lower number", x.below(1, 9999, 9999), "1/9999");
    Check.is("just below 1", x.below(9998, 9999, 1), "0/1");
    Check.is("just below 1, one too few", x.below(9998, 9999, 9998), "9997/9998");
    Check.is("just below 1, itself", x.below(9998, 9999, 9999), "9998/9999");
    Check.is("a half", x.below(9999, 2, 1), "4999/1");
    Check.is("a half itself", x.below(9999, 2, 2), "9999/2");
    Check.is("in lowest terms", x.below(6, 4, 9999), "3/2");
    Check.is("one below it", x.below(6, 4, 1), "1/1");
  }

  // Promise 9: "not below the asked one"
  private static void aboves() {
    Moonwheels x = new Moonwheels();
    Check.is("most 1, itself", x.above(1, 1, 1), "1/1");
    Check.is("most 1, whole", x.above(9999, 1, 1), "9999/1");
    Check.is("most 9999, whole", x.above(9999, 1, 9999), "9999/1");
    Check.is("1/1 alone", x.above(1, 9999, 1), "1/1");
    Check.is("one too few", x.above(1, 9999, 9998), "1/9998");
    Check.is("with just the lower number", x.above(1, 9999, 9999), "1/9999");
    Check.is("just below 1", x.above(9998, 9999, 9998), "1/1");
    Check.is("just below 1, itself", x.above(9998, 9999, 9999), "9998/9999");
    Check.is("just above 1", x.above(9999, 9998, 1), "2/1");
    Check.is("just above 1, one too few", x.above(9999, 9998, 9997), "9998/9997");
    Check.is("a half", x.above(9999, 2, 1), "5000/1");
    Check.is("a half itself", x.above(9999, 2, 2), "9999/2");
    Check.is("in lowest terms", x.above(6, 4, 9999), "3/2");
    Check.is("one above it", x.above(6, 4, 1), "2/1");
  }

  // Promise 23: "a is not -9999 to 9999, or n not 1 to 9999"; "NONE without one"
  private static void inverses() {
    for (Supplier<Moonwheels> house : java.util.List.of(EMPTY, FULL)) {
      Check.range("inverse a", BAD, -9999, 9999, house, (x, v) -> x.inverse(v, 7));
      Check.range("inverse n", BAD, 1, 9999, house, (x, v) -> x.inverse(7, v));
    }
    bad("both are wrong", y -> y.inverse(10000, 0));
    Moonwheels x = new Moonwheels();
    Check.is("1 mod 1 is 0, and so is the least x", x.inverse(0, 1), 0);
    Check.is("n = 1, the least a", x.inverse(-9999, 1), 0);
    Check.is("n = 1, the greatest a", x.inverse(9999, 1), 0);
    Check.is("0 has none", x.inverse(0, 2), -1);
    Check.is("0 has none", x.inverse(0, 9999), -1);
    Check.is("n is a multiple of a", x.inverse(3, 9999), -1);
    Check.is("a is n", x.inverse(9999, 9999), -1);
    Check.is("a is -n", x.inverse(-9999, 9999), -1);
    Check.is("a is a multiple of n", x.inverse(14, 7), -1);
    Check.is("a is 1", x.inverse(1, 9999), 1);
    Check.is("a below 0: mod is 0 to n - 1", x.inverse(-1, 9999), 9998);
    Check.is("n - 1", x.inverse(9998, 9999), 9998);
    Check.is("the least a", x.inverse(-9999, 2), 1);
    Check.is("the least a", x.inverse(-9999, 9998), 9997);
    Check.is("the greatest a", x.inverse(9999, 9998), 1);
    Check.is("a half", x.inverse(2, 9999), 5000);
  }
}
