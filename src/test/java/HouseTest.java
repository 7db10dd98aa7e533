/** Promises 50 to 56: marks, undo, house, knock, isSound and digest. */
public final class HouseTest {
  private static final Class<IllegalArgumentException> BAD = IllegalArgumentException.class;
  private static final Class<IllegalStateException> STATE = IllegalStateException.class;
  private static final int[] FAR = {-100001, 100001, Integer.MIN_VALUE, Integer.MAX_VALUE};

  public static void main(String[] args) {
    laying();
    fullMarks();
    rowsOfMarks();
    undoing();
    undoAll();
    houses();
    digests();
    Check.end("HouseTest");
  }

  private static void laying() {
    Moonwheels x = new Moonwheels();
    for (int t : FAR) {
      Check.no("lay moment", x, BAD, () -> x.lay(t, 0));
      Check.no("marks from", x, BAD, () -> x.marks(t, 0));
      Check.no("marks to", x, BAD, () -> x.marks(0, t));
    }
    for (int note : new int[] {-2, 100, Integer.MIN_VALUE, Integer.MAX_VALUE}) {
      Check.no("lay note", x, BAD, () -> x.lay(0, note));
    }
    Check.is("nothing to take away", x.lay(7, -1), -1);
    Check.is("that is no CHANGE", x.house(5), 0);
    Check.is("lay(7, 0)", x.lay(7, 0), -1);
    Check.is("lay(7, 99)", x.lay(7, 99), 0);
    Check.is("told as it was", x.lay(7, 99), 99);
    Check.is("house(5)", x.house(5), 3);
    Check.is("house(4)", x.house(4), 1);
    Check.is("lay(7, -1)", x.lay(7, -1), 99);
    Check.is("house(4)", x.house(4), 0);
    Check.is("house(5)", x.house(5), 4);
    Check.is("undo", x.undo(), 3);
    Check.is("marks", x.marks(7, 7), "7:99");
    x.undo();
    x.undo();
    Check.is("marks", x.marks(7, 7), "7:0");
    x.undo();
    Check.is("marks", x.marks(7, 7), "");
  }

  private static void fullMarks() {
    Moonwheels x = new Moonwheels();
    for (int i = 0; i < 20; i++) {
      Check.is("lay", x.lay(i * 3 % 20, i), -1);
    }
    Check.no("a 21st", x, STATE, () -> x.lay(20, 0));
    Check.no("a bad 21st", x, BAD, () -> x.lay(20, 100));
    Check.is("NONE where there is none", x.lay(20, -1), -1);
    Check.is("another note", x.lay(0, 55), 0);
    Check.is("one away", x.lay(19, -1), 13);
    Check.is("a 20th", x.lay(-100000, 1), -1);
    Check.no("a 21st", x, STATE, () -> x.lay(19, 0));
    Check.is("house(4)", x.house(4), 20);
    Check.is("undo", x.undo(), 9);
    Check.is("undo", x.undo(), 8);
    Check.is("house(4)", x.house(4), 20);
    StringBuilder due = new StringBuilder("0:55");
    for (int t = 1; t < 20; t++) {
      due.append(' ').append(t).append(':').append(t * 7 % 20);
    }
    Check.is("marks", x.marks(-100000, 100000), due.toString());
  }

  private static void rowsOfMarks() {
    Moonwheels x = new Moonwheels();
    Check.is("none", x.marks(0, 0), "");
    x.lay(10, 1);
    x.lay(-10, 2);
    x.lay(0, 3);
    Check.is("all", x.marks(-10, 10), "-10:2 0:3 10:1");
    Check.is("from -9", x.marks(-9, 9), "<-10:2 0:3");
    Check.is("the last one below", x.marks(1, 10), "<0:3 10:1");
    Check.is("nothing behind it", x.marks(1, 9), "<0:3 ");
    Check.is("to below from", x.marks(10, 0), "<0:3 ");
    Check.is("to below from", x.marks(0, -10), "<-10:2 ");
    Check.is("to below from, none below", x.marks(-10, -100), "");
    Check.is("behind all", x.marks(11, 100000), "<10:1 ");
    Check.is("ahead of all", x.marks(-100000, -11), "");
    x.lay(100000, 4);
    x.lay(-100000, 5);
    Check.is("edges", x.marks(-100000, 100000), "-100000:5 -10:2 0:3 10:1 100000:4");
  }

  private static void undoing() {
    Moonwheels x = new Moonwheels();
    Check.no("nothing to take back", x, STATE, () -> x.undo());
    for (int i = 0; i < 13; i++) {
      x.rise(0, i + 1);
      Check.is("house(5)", x.house(5), Math.min(i + 1, 10));
    }
    for (int i = 0; i < 10; i++) {
      Check.is("undo", x.undo(), 9 - i);
      Check.is("rising(0)", x.rising(0), 12 - i);
    }
    Check.no("the oldest ones are forgotten", x, STATE, () -> x.undo());
    x.rise(0, 70);
    x.knock();
    Check.is("undo", x.undo(), 0);
    Check.is("rising(0)", x.rising(0), 3);
    Check.is("knocks stay", x.house(6), 1);
  }

  /** Each kind of CHANGE, and behind each undo the house is as it was. */
  private static void undoAll() {
    Moonwheels x = new Moonwheels();
    x.swing(5, 1);
    long[] digests = new long[11];
    for (int i = 0; i < 11; i++) {
      digests[i] = view(x);
      change(x, i);
    }
    for (int i = 10; i > 0; i--) {
      Check.is("undo", x.undo(), i - 1);
      Check.is("behind the undo of " + i, view(x), digests[i]);
    }
  }

  private static void change(Moonwheels x, int kind) {
    switch (kind) {
      case 0: x.cut(12); break;
      case 1: x.body(9, 4, 8); break;
      case 2: x.retell(0, 5, 3); break;
      case 3: x.sun(365, 1, 4, 2, 7); break;
      case 4: x.moon(59, 2, 7, 19, 1); break;
      case 5: x.sky(10, 132, -2, 60); break;
      case 6: x.sky(11, 140, 2, 80); break;
      case 7: x.share(0, 4, 44); break;
      case 8: x.port(17); break;
      case 9: x.pieces(13); break;
      default: x.lay(3, 3); break;
    }
  }

  /** All that is told, but for how many CHANGES can be taken back. */
  private static long view(Moonwheels x) {
    long d = 6602;
    for (int what = 0; what <= 6; what++) {
      d = d * 31 + (what == 5 ? 0 : x.house(what));
    }
    for (int t = 0; t < 12; t++) {
      d = d * 31 + x.height(t);
    }
    for (int i = 0; i < x.house(1); i++) {
      d = (d * 31 + x.nextOf(i, 0)) * 31 + x.aheadOf(i, 0);
      d = d * 31 + x.window(1, 4).hashCode();
    }
    for (int i = 0; i < x.house(2); i++) {
      d = d * 31 + x.date(i, 1234).hashCode();
    }
    d = d * 31 + x.marks(-9, 9).hashCode() + x.rising(4);
    String slip = "";
    try {
      slip = x.skySlip(77);
    } catch (IllegalStateException e) {
      slip = "none";
    }
    return d * 31 + slip.hashCode();
  }

  private static void houses() {
    Moonwheels x = new Moonwheels();
    for (int what : new int[] {-1, 7, Integer.MIN_VALUE, Integer.MAX_VALUE}) {
      Check.no("house", x, BAD, () -> x.house(what));
    }
    Check.is("knock", x.knock(), 1);
    Check.is("knock", x.knock(), 2);
    x.cut(9);
    x.body(4, 0, 0);
    x.body(4, 1, 0);
    x.sun(365, 0, 1, 0, 1);
    x.sun(365, 0, 1, 0, 1);
    x.sun(365, 0, 1, 0, 1);
    for (int i = 0; i < 3; i++) {
      x.swing(5, 0);
    }
    for (int i = 0; i < 5; i++) {
      x.lay(i, i);
    }
    int[] due = {1, 2, 3, 3, 5, 10, 2};
    for (int what = 0; what <= 6; what++) {
      Check.is("house(" + what + ")", x.house(what), due[what]);
    }
    Check.is("isSound", x.isSound(), true);
    Check.is("asking is no CHANGE", x.house(5), 10);
  }

  /** The empty house's checksum by hand, and that each part of the house moves it. */
  private static void digests() {
    long d = 6602;
    for (int i = 0; i < 7; i++) {
      d *= 31;
    }
    d = d * 31 + 1;
    for (int i = 0; i < 12 + 9; i++) {
      d *= 31;
    }
    d = d * 31 + 1;
    Moonwheels x = new Moonwheels();
    Check.is("digest of an empty house", x.digest(), d);
    Check.is("digest once more", x.digest(), d);
    Plain plain = new Plain();
    x.knock();
    plain.knock();
    Check.is("digest, knocked", x.digest(), plain.digest());
    x.lay(-100000, 7);
    plain.lay(-100000, 7);
    x.lay(100000, 8);
    plain.lay(100000, 8);
    x.body(4999, -17, 3);
    plain.body(4999, -17, 3);
    x.body(4998, 17, 3);
    plain.body(4998, 17, 3);
    Check.is("digest with BODIES and MARKS", x.digest(), plain.digest());
    x.moon(59061, 2000, 7, 19, 3);
    plain.moon(59061, 2000, 7, 19, 3);
    x.sun(365, 97, 400, 5, 11);
    plain.sun(365, 97, 400, 5, 11);
    x.sky(10, 132, -2, 60);
    plain.sky(10, 132, -2, 60);
    x.swing(7, 3);
    plain.swing(7, 3);
    x.share(0, 2, -9);
    plain.share(0, 2, -9);
    x.rise(3, 800);
    plain.rise(3, 800);
    Check.is("digest of a full house", x.digest(), plain.digest());
  }
}
