import java.util.List;
import java.util.function.Consumer;
import java.util.function.Supplier;

/** Each sentence of promises 10 to 13 that names an edge. */
public final class WheelEdgesTest {
  private static final Class<IllegalArgumentException> BAD = IllegalArgumentException.class;
  private static final Class<IllegalStateException> STATE = IllegalStateException.class;
  private static final Supplier<Moonwheels> EMPTY = Houses::empty;
  private static final Supplier<Moonwheels> ALMOST = Houses::almost;
  private static final Supplier<Moonwheels> FULL = Houses::full;

  public static void main(String[] args) {
    cutRanges();
    cutsUntilFull();
    cutAlready();
    trainArguments();
    nothingCut();
    trainTexts();
    trainOrder();
    trainErrors();
    planetArguments();
    planetAnswers();
    Check.end("WheelEdgesTest");
  }

  // Promise 10: "teeth is not 6 to 120", "there are 8 others", the first goes ahead of the second
  private static void cutRanges() {
    Check.range("cut teeth, empty house", BAD, 6, 120, EMPTY, (x, v) -> x.cut(v));
    Check.range("cut teeth, one place left", BAD, 6, 120, ALMOST, (x, v) -> x.cut(v));
    for (int teeth : new int[] {5, 121, 0, -12}) {
      Check.refused("teeth named first: " + teeth, BAD, FULL, x -> x.cut(teeth));
    }
    for (int teeth : new int[] {6, 11, 13, 95, 97, 120}) {
      Check.refused("a ninth size: " + teeth, STATE, FULL, x -> x.cut(teeth));
    }
  }

  // "at most 8 sizes of wheels"
  private static void cutsUntilFull() {
    Moonwheels x = Houses.almost();
    Check.is("seven are CUT", x.house(0), 7);
    Check.is("one of them is no eighth", x.cut(12), 7);
    Check.is("the eighth", x.cut(6), 8);
    Check.is("the smallest is there", x.train(1, 9999, 1), "6>72");
    Check.is("CUT already, although there are 8", x.cut(72), 8);
    Check.is("the eighth once more", x.cut(6), 8);
    Check.is("a ninth", Check.thrown(() -> x.cut(7)), STATE.getName());
    Check.is("still 8", x.house(0), 8);
    Check.is("the eighth is taken back", x.undo(), 9);
    Check.is("seven", x.house(0), 7);
    Check.is("6 is gone", x.train(1, 9999, 1), "12>72");
    Check.is("there is room for another one", x.cut(120), 8);
    Check.is("the greatest is there", x.train(1, 9999, 1), "12>120");
    Check.is("a ninth", Check.thrown(() -> x.cut(6)), STATE.getName());
  }

  // "if it is CUT already, nothing is done, and nothing can be undone by that"
  private static void cutAlready() {
    Moonwheels x = new Moonwheels();
    Check.is("first", x.cut(9), 1);
    Check.is("CUT already", x.cut(9), 1);
    Check.is("one CHANGE alone", x.house(5), 1);
    Check.is("undo takes the first one back", x.undo(), 0);
    Check.is("nothing is CUT", x.house(0), 0);
    Moonwheels full = Houses.full();
    for (int teeth : new int[] {12, 15, 20, 30, 45, 60, 72, 96}) {
      Check.is("CUT already", full.cut(teeth), 8);
    }
    Check.is("nothing was done", Houses.view(full), Houses.view(Houses.full()));
    Check.is("none of ten CHANGES is forgotten", Houses.undone(full), Houses.undone(Houses.full()));
  }

  // Promises 11 and 12: "top or bottom is not 1 to 9999, or pairs is not 1 to 3"
  private static void trainArguments() {
    for (Supplier<Moonwheels> house : List.of(ALMOST, FULL)) {
      Check.range("train top", BAD, 1, 9999, house, (x, v) -> x.train(v, 7, 1));
      Check.range("train bottom", BAD, 1, 9999, house, (x, v) -> x.train(7, v, 1));
      Check.range("train pairs", BAD, 1, 3, house, (x, v) -> x.train(7, 9, v));
      Check.range("trainError top", BAD, 1, 9999, house, (x, v) -> x.trainError(v, 7, 1));
      Check.range("trainError bottom", BAD, 1, 9999, house, (x, v) -> x.trainError(7, v, 1));
      Check.range("trainError pairs", BAD, 1, 3, house, (x, v) -> x.trainError(7, 9, v));
    }
  }

  // "nothing is CUT"; the arguments are named first
  private static void nothingCut() {
    for (int pairs = 1; pairs <= 3; pairs++) {
      int n = pairs;
      Check.refused("train, nothing is CUT", STATE, EMPTY, x -> x.train(1, 1, n));
      Check.refused("trainError, nothing is CUT", STATE, EMPTY, x -> x.trainError(9999, 9999, n));
      Check.refused("train, nothing is CUT any more", STATE, WheelEdgesTest::takenBack, x -> x.train(1, 1, n));
      Check.refused("trainError, likewise", STATE, WheelEdgesTest::takenBack, x -> x.trainError(1, 1, n));
    }
    for (int wrong : new int[] {0, 10000, -1, Integer.MIN_VALUE, Integer.MAX_VALUE}) {
      Check.refused("train top first", BAD, EMPTY, x -> x.train(wrong, 1, 1));
      Check.refused("train bottom first", BAD, EMPTY, x -> x.train(1, wrong, 1));
      Check.refused("trainError top first", BAD, EMPTY, x -> x.trainError(wrong, 1, 1));
      Check.refused("trainError bottom first", BAD, EMPTY, x -> x.trainError(1, wrong, 1));
    }
    for (int wrong : new int[] {0, 4, -1, Integer.MIN_VALUE, Integer.MAX_VALUE}) {
      Check.refused("train pairs first", BAD, EMPTY, x -> x.train(1, 1, wrong));
      Check.refused("trainError pairs first", BAD, EMPTY, x -> x.trainError(1, 1, wrong));
    }
  }

  private static Moonwheels takenBack() {
    Moonwheels x = new Moonwheels();
    x.cut(50);
    x.undo();
    return x;
  }

  // "the drivers, rising, with ' ' between, '>', the driven ones likewise (no ' ' around it)"; "as many as one likes"
  private static void trainTexts() {
    Moonwheels x = new Moonwheels();
    x.cut(6);
    Check.is("one size, 1 pair", x.train(1, 1, 1), "6>6");
    Check.is("one size, 2 pairs", x.train(1, 1, 2), "6 6>6 6");
    Check.is("one size, 3 pairs", x.train(1, 9999, 3), "6 6 6>6 6 6");
    x.cut(120);
    Check.is("the greatest ratio, 1 pair", x.train(9999, 1, 1), "120>6");
    Check.is("the greatest ratio, 2 pairs", x.train(9999, 1, 2), "120 120>6 6");
    Check.is("the greatest ratio, 3 pairs", x.train(9999, 1, 3), "120 120 120>6 6 6");
    Check.is("the least ratio, 3 pairs", x.train(1, 9999, 3), "6 6 6>120 120 120");
    Check.is("8000 / 1 is just met", x.train(8000, 1, 3), "120 120 120>6 6 6");
    Check.is("1 / 8000 is just met", x.train(1, 8000, 3), "6 6 6>120 120 120");
    Check.is("rising", x.train(20, 1, 2), "6 120>6 6");
    Check.is("rising on both sides", x.train(1, 20, 3), "6 6 6>6 6 120");
  }

  // "least error; of these fewest teeth in all; of these the smallest first driver, then .. then driven ones likewise"
  private static void trainOrder() {
    Moonwheels x = new Moonwheels();
    x.cut(10);
    x.cut(20);
    x.cut(30);
    x.cut(40);
    Check.is("least error ahead of fewest teeth", x.train(4, 3, 1), "40>30");
    Check.is("fewest teeth", x.train(2, 1, 1), "20>10");
    Check.is("fewest teeth, no error", x.train(1, 1, 3), "10 10 10>10 10 10");
    // 1/1 and 2/1 are as far from 3/2 as from each other, but 30>20 is there.
    Check.is("no error", x.train(3, 2, 1), "30>20");
    Moonwheels y = new Moonwheels();
    y.cut(10);
    y.cut(20);
    // 10>10 and 20>10 differ from 3/2 by as much, 20>20 has more teeth
    Check.is("the error below and above counts alike, then teeth", y.train(3, 2, 1), "10>10");
    Check.is("and the smaller driver", y.train(3, 4, 1), "10>10");
    Moonwheels z = new Moonwheels();
    for (int teeth : new int[] {6, 8, 9, 12}) {
      z.cut(teeth);
    }
    // 8 * 9 = 6 * 12, of 17 and 18 teeth
    Check.is("fewer teeth on a side", z.train(2, 1, 2), "8 9>6 6");
    Check.is("fewer teeth on the other side", z.train(1, 2, 2), "6 6>8 9");
    // Equal errors, equal teeth in all; the other one is told behind each.
    Check.is("the smallest first driver, 27 27>9 9", best(9, 1, 2, 6, 9, 27, 54), "6 54>6 6");
    Check.is("the smallest second driver, 14 24 24>14 14 16", best(18, 7, 3, 14, 16, 24, 32, 36, 42),
        "14 14 36>14 14 14");
    Check.is("the smallest third driver, 8 8 25>10 10 10", best(8, 5, 3, 8, 10, 15, 24, 25, 32), "8 8 24>8 8 15");
    Check.is("the smallest first driven one, 19 19 51>21 24 38", best(323, 336, 3, 19, 21, 24, 28, 36, 38, 51),
        "19 19 51>19 28 36");
  }

  /** CUT from the greatest on, as the order of cut() must not count. */
  private static String best(int top, int bottom, int pairs, int... sizes) {
    Moonwheels x = new Moonwheels();
    for (int i = sizes.length - 1; i >= 0; i--) {
      x.cut(sizes[i]);
    }
    return x.train(top, bottom, pairs);
  }

  // Promise 12: as a FRACTION, "by how much it differs"
  private static void trainErrors() {
    Moonwheels x = new Moonwheels();
    x.cut(6);
    Check.is("no error is 0/1", x.trainError(1, 1, 1), "0/1");
    Check.is("no error is 0/1", x.trainError(9999, 9999, 3), "0/1");
    Check.is("below the asked one, never below 0", x.trainError(9999, 1, 1), "9998/1");
    Check.is("above the asked one, never below 0", x.trainError(1, 9999, 3), "9998/9999");
    x.cut(120);
    Check.is("in lowest terms", x.trainError(21, 1, 1), "1/1");
    Check.is("the greatest ratio", x.trainError(9999, 1, 3), "1999/1");
    Check.is("the least ratio", x.trainError(1, 9999, 3), "1999/79992000");
    Check.is("just met", x.trainError(8000, 1, 3), "0/1");
  }

  // Promise 13: "sun is not 6 to 120, ring not 6 to 400, held not 0 to 2, or ring - sun is odd or not above 0"
  private static void planetArguments() {
    for (Supplier<Moonwheels> house : List.of(EMPTY, FULL)) {
      Check.range("planets sun", BAD, 6, 120, house, (x, v) -> x.planets(v, 400, 0));
      Check.range("planets ring", BAD, 8, 400, house, (x, v) -> x.planets(6, v, 0));
      Check.range("planets held", BAD, 0, 2, house, (x, v) -> x.planets(6, 8, v));
      int[][] bad = {{5, 7, 0}, {4, 8, 0}, {121, 399, 0}, {122, 400, 0}, {6, 402, 0}, {7, 401, 0}, {6, 5, 0},
          {6, 6, 0}, {120, 120, 0}, {8, 6, 0}, {120, 6, 0}, {6, 7, 0}, {6, 9, 0}, {7, 8, 0}, {120, 399, 0},
          {6, 399, 0}, {119, 400, 0}, {8, 7, 1}, {6, 6, 2}, {5, 401, 3}};
      for (int[] p : bad) {
        refusedPlanets(house, x -> x.planets(p[0], p[1], p[2]));
      }
    }
  }

  private static void refusedPlanets(Supplier<Moonwheels> house, Consumer<Moonwheels> run) {
    Check.refused("planets", BAD, house, run);
  }

  private static void planetAnswers() {
    Moonwheels x = new Moonwheels();
    Check.is("the smallest, the ring held", x.planets(6, 8, 0), "3/7");
    Check.is("the smallest, the middle held", x.planets(6, 8, 1), "4/7");
    Check.is("the smallest, the arm held: '-' ahead", x.planets(6, 8, 2), "-3/4");
    Check.is("the greatest difference", x.planets(6, 400, 0), "3/203");
    Check.is("the greatest difference", x.planets(6, 400, 1), "200/203");
    Check.is("the greatest difference", x.planets(6, 400, 2), "-3/200");
    Check.is("the greatest", x.planets(120, 400, 1), "10/13");
    Check.is("the smallest ring to the greatest sun", x.planets(120, 122, 2), "-60/61");
    Check.is("odd both", x.planets(119, 399, 0), "17/74");
    Check.is("a whole one below 0 is in lowest terms too", x.planets(20, 60, 2), "-1/3");
  }
}
