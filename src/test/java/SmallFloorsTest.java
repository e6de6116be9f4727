/** All 4096 floors within 3 rows of 4 FIELDS, at a corner of the grid or amid it, against the slow model. */
public final class SmallFloorsTest {
  private static final int WIDTH = 4;
  private static final int HEIGHT = 3;
  private static final Due DUE = new Due();

  public static void main(String[] args) {
    int[][] corners = {{0, 0}, {4, 5}, {2, 3}, {0, 5}, {4, 0}};
    for (int floor = 0; floor < 1 << WIDTH * HEIGHT; floor++) {
      int[] corner = corners[floor % corners.length];
      compare(floor, corner[0], corner[1]);
    }
    DUE.end();
  }

  private static void compare(int floor, int left, int top) {
    ParquetLayer p = new ParquetLayer();
    Model m = new Model();
    for (int y = 0; y < HEIGHT; y++) {
      int bits = (floor >> WIDTH * y & 15) << left;
      DUE.is("row", p.row(top + y, bits), m.row(top + y, bits));
    }
    String name = "floor " + floor + " at " + left + ", " + top + ": ";
    for (int what = 0; what < 4; what++) DUE.is(name + "floor(" + what + ")", p.floor(what), m.floor(what));
    DUE.is(name + "count()", p.count(), m.count());
    DUE.is(name + "lack()", p.lack(), m.lack());
    DUE.is(name + "extreme(false)", p.extreme(false), m.extreme(false));
    DUE.is(name + "extreme(true)", p.extreme(true), m.extreme(true));
    fields(name, p, m, left, top);
    layings(name, p, m, left, top);
  }

  private static void fields(String name, ParquetLayer p, Model m, int left, int top) {
    for (int i = 0; i < WIDTH * HEIGHT; i++) {
      int f = 8 * (top + i / WIDTH) + left + i % WIDTH;
      DUE.is(name + "lacking(" + f + ")", p.lacking(f), m.lacking(f));
      DUE.is(name + "with(" + f + ", false)", p.with(f, false), m.with(f, false));
      DUE.is(name + "with(" + f + ", true)", p.with(f, true), m.with(f, true));
    }
  }

  private static void layings(String name, ParquetLayer p, Model m, int left, int top) {
    int last = m.count() - 1;
    DUE.is(name + "apart", p.apart(0, last), m.apart(0, last));
    DUE.is(name + "step", p.step(0, last, 0), m.step(0, last, 0));
    DUE.is(name + "meet", p.meet(0, last, false), m.meet(0, last, false));
    DUE.is(name + "join", p.meet(0, last, true), m.meet(0, last, true));
    DUE.is(name + "lay", p.lay(last), m.lay(last));
    DUE.is(name + "turns", p.turns(), m.turns());
    for (int y = top; y <= top + HEIGHT; y++) {
      for (int x = left; x <= left + WIDTH; x++) DUE.is(name + "height", p.height(x, y), m.height(x, y));
    }
  }
}
