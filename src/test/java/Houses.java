/** Houses that the edge tests begin with, and all of a house that calls can show. An object is used for 512 calls. */
final class Houses {
  private static final int[] SIZES = {6, 12, 15, 20, 30, 45, 60, 72, 96, 120};

  private Houses() {}

  static Moonwheels empty() {
    return new Moonwheels();
  }

  /** One place is left of each thing that can be full; ten CHANGES are kept. */
  static Moonwheels almost() {
    Moonwheels x = new Moonwheels();
    x.knock();
    for (int i = 1; i < 8; i++) {
      x.cut(SIZES[i]);
    }
    int[][] bodies = {{30, 2, 29}, {12, 5, 2}, {18, -1, 0}, {35, 10000, 9}, {4999, -9999, 4000}};
    for (int[] b : bodies) {
      x.body(b[0], b[1], b[2]);
    }
    x.sun(365, 1, 4, 0, 12);
    x.moon(59, 2, 7, 19, 0);
    x.sun(20, 3, 7, 6, 20);
    x.sky(10, 132, -2, 60);
    tellTides(x);
    for (int k = 0; k < 12; k++) {
      x.rise(k, 300 - 77 * k * (k - 5));
    }
    x.pieces(29);
    for (int i = 0; i < 19; i++) {
      x.lay(i * 7 % 19 - 9, i);
    }
    return x;
  }

  private static void tellTides(Moonwheels x) {
    x.swing(4, 3);
    x.swing(3, -1);
    int[] four = {1, 20, 3, 40};
    int[] three = {-5, 60, 7};
    for (int k = 0; k < 4; k++) {
      x.share(0, k, four[k]);
    }
    for (int k = 0; k < 3; k++) {
      x.share(1, k, three[k]);
    }
    x.port(2);
  }

  /** Nothing more goes in; the ten CHANGES kept are of ten kinds. */
  static Moonwheels full() {
    Moonwheels x = almost();
    x.pieces(13);
    x.cut(96);
    x.body(5000, -10000, 4999);
    x.retell(0, 20, 3);
    x.moon(59061, 2000, 7, 19, 3);
    x.sky(11, 143, -3, 70);
    x.swing(5, -4);
    x.share(2, 4, 99);
    x.port(-7);
    x.rise(11, -9999);
    x.lay(100000, 99);
    return x;
  }

  /** Some 140 calls: all that calls can show. */
  static String view(Moonwheels x) {
    StringBuilder out = new StringBuilder(told(x));
    out.append('\n').append(x.house(5)).append(' ').append(x.house(6)).append(' ').append(x.isSound());
    return out.append(' ').append(x.digest()).toString();
  }

  /** All but how many CHANGES are kept, so that a house is told the same as before a CHANGE and its UNDO. */
  static String told(Moonwheels x) {
    StringBuilder out = new StringBuilder(shortView(x));
    for (int size : x.house(0) > 0 ? SIZES : new int[0]) {
      out.append(x.train(size, 6, 1)).append(' ');
    }
    for (int i = 0; i < x.house(1); i++) {
      int next = x.nextOf(i, 0);
      out.append(i).append(": ").append(next).append(' ').append(x.many(i, -100000, 100000)).append(' ');
      for (int more : new int[] {1, 3, 10, 4001}) {
        out.append(x.window(1 << i, next + more)).append(' ');
      }
    }
    for (int i = 0; i < x.house(2); i++) {
      out.append(i).append("; ").append(x.yearBegin(i, 3000)).append(' ').append(x.drift(i, 1)).append(' ');
      out.append(x.date(i, 777777)).append(' ').append(x.leaps(i, -3000, 1000)).append('\n');
    }
    out.append(Check.thrown(() -> x.skySlip(0)));
    if (Check.thrown(() -> x.skySlip(0)).equals("nothing")) {
      out.append(x.skySlip(1)).append(' ').append(x.eclipse(1)).append(' ').append(x.eclipses(0, 5000));
    }
    for (int t = 0; t < 12; t++) {
      out.append(' ').append(x.height(t));
    }
    for (int day = 0; day < 360; day += 15) {
      out.append(' ').append(x.rising(day));
    }
    return out.toString();
  }

  /** Some 14 calls. */
  private static String shortView(Moonwheels x) {
    StringBuilder out = new StringBuilder();
    for (int what = 0; what <= 4; what++) {
      out.append(x.house(what)).append(' ');
    }
    if (x.house(0) > 0) {
      out.append(x.train(9999, 1, 1)).append(' ').append(x.train(1, 9999, 1)).append(' ');
    }
    if (x.house(1) > 0) {
      out.append(x.again((1 << x.house(1)) - 1)).append(' ').append(x.window(1, 6)).append(' ');
    }
    out.append(x.tideRound()).append(' ').append(x.rising(-3)).append(' ').append(x.height(0)).append('\n');
    return out.append(x.marks(-100000, 100000)).append('\n').toString();
  }

  /** Takes back all that can be, and tells the house behind each step. Some 180 calls. */
  static String undone(Moonwheels x) {
    StringBuilder out = new StringBuilder();
    for (int step = 0; step < 11 && x.house(5) > 0; step++) {
      out.append(x.undo()).append(": ").append(shortView(x)).append(x.digest());
    }
    return out.append(Check.thrown(() -> x.undo())).toString();
  }
}
