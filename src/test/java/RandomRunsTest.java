import java.util.Random;

/** Runs of calls, drawn with fixed seeds, on the class and on the slow model: all answers agree. */
public final class RandomRunsTest {
  private static final int RUNS = 600;
  private static final int CALLS = 400;
  private static int wrong = 0;

  private final Random random;
  private final ParquetLayer real = new ParquetLayer();
  private final Model model = new Model();
  private final int left;
  private final int top;
  private final int width;
  private final int height;
  private final int thin;
  private final StringBuilder calls = new StringBuilder();

  private RandomRunsTest(long seed) {
    random = new Random(seed);
    width = 2 + random.nextInt(4);
    height = 2 + random.nextInt(4);
    left = random.nextInt(9 - width);
    top = random.nextInt(9 - height);
    thin = random.nextInt(3) == 0 ? 12 : 15;
  }

  public static void main(String[] args) {
    for (int run = 0; run < RUNS && wrong == 0; run++) {
      new RandomRunsTest(run).run(run);
    }
    if (wrong != 0) System.exit(1);
    System.out.println(RUNS + " runs of " + CALLS + " calls agree");
  }

  // A run first tells a floor, then mostly asks; how often it tells more, each run has its own.
  private void run(int run) {
    int changing = new int[] {2, 10, 40}[run % 3];
    for (int call = 0; call < CALLS && wrong == 0; call++) {
      if (call < height) tellRow(top + call);
      else if (call < height + 3) sheets(0);
      else if (random.nextInt(100) < changing) change(random.nextInt(16));
      else ask(random.nextInt(36));
      if (wrong != 0) System.out.println("run " + run + ":\n" + calls);
    }
  }

  private void same(String call, int got, int due) {
    calls.append(call).append(" -> ").append(got).append('\n');
    if (got != due) {
      wrong++;
      calls.append("   due is ").append(due).append('\n');
    }
  }

  private boolean odd() { return random.nextInt(25) == 0; }

  private int any() {
    int[] edges = {-1, 0, 1, 7, 8, 9, 16, 17, 20, 63, 64, 99, 100, 255, 256, Integer.MAX_VALUE, Integer.MIN_VALUE};
    return edges[random.nextInt(edges.length)];
  }

  private int upTo(int n) { return odd() ? any() : random.nextInt(n + 1); }

  private int y() { return top + random.nextInt(height); }

  private int field() { return odd() ? any() : 8 * y() + left + random.nextInt(width); }

  private int rowBits() {
    int bits = 0;
    for (int x = left; x < left + width; x++) if (random.nextInt(16) <= thin) bits |= 1 << x;
    if (random.nextInt(6) == 0) bits ^= 1 << (left + random.nextInt(width));
    return odd() ? any() : bits;
  }

  private int number() { return odd() ? any() : random.nextInt(Math.max(1, model.count()) + (odd() ? 1 : 0)); }

  private void change(int which) {
    switch (which) {
      case 0, 1, 2, 3 -> tellRow(odd() ? any() : y());
      case 4, 5, 6, 7, 8 -> tellStone();
      case 9 -> same("loose()", real.loose(), model.loose());
      case 10, 11, 12 -> same("undo()", real.undo(), model.undo());
      default -> sheets(random.nextInt(5));
    }
  }

  private void tellRow(int y) {
    int bits = random.nextInt(8) == 0 ? rowAsIs(y) : rowBits();
    same("row(" + y + ", " + bits + ")", real.row(y, bits), model.row(y, bits));
  }

  private void tellStone() {
    int kind = upTo(3);
    int f = field();
    boolean across = random.nextBoolean();
    int colour = odd() ? any() : kind == 2 ? 1 + random.nextInt(99) : 0;
    same("stone(" + kind + ", " + f + ", " + across + ", " + colour + ")",
        real.stone(kind, f, across, colour), model.stone(kind, f, across, colour));
  }

  private void ask(int which) {
    if (which < 5) floors(which);
    else if (which < 10) stones(which);
    else if (which < 25) layings(which);
    else if (which < 34) heights(which);
    else sheets(random.nextInt(7));
  }

  private void floors(int which) {
    int f = field();
    int what = upTo(3);
    switch (which) {
      case 0 -> same("has(" + f + ")", real.has(f), model.has(f));
      case 1 -> same("floor(" + what + ")", real.floor(what), model.floor(what));
      case 2 -> same("lack()", real.lack(), model.lack());
      default -> same("lacking(" + f + ")", real.lacking(f), model.lacking(f));
    }
  }

  private int rowAsIs(int y) {
    int bits = 0;
    if (y < 0 || y > 7) return bits;
    for (int x = 0; x < 8; x++) if (model.has(8 * y + x) == 1) bits |= 1 << x;
    return bits;
  }

  private int stoneNumber() { return odd() ? any() : random.nextInt(1 + model.all(0)); }

  private void stones(int which) {
    int s = stoneNumber();
    int kind = upTo(3);
    int what = upTo(4);
    if (which < 7) same("as(" + s + ", " + kind + ")", real.as(s, kind), model.as(s, kind));
    else same("told(" + s + ", " + what + ")", real.told(s, what), model.told(s, what));
  }

  private void layings(int which) {
    int f = field();
    int n = number();
    boolean across = random.nextBoolean();
    int seed = random.nextInt();
    switch (which) {
      case 10 -> same("count()", real.count(), model.count());
      case 11, 12 -> same("with(" + f + ", " + across + ")", real.with(f, across), model.with(f, across));
      case 13, 14, 15 -> same("lay(" + n + ")", real.lay(n), model.lay(n));
      case 16 -> same("rank()", real.rank(), model.rank());
      case 17, 18 -> same("next()", real.next(), model.next());
      case 19 -> same("draw(" + seed + ")", real.draw(seed), model.draw(seed));
      case 20 -> same("partner(" + f + ")", real.partner(f), model.partner(f));
      case 21 -> same("turns()", real.turns(), model.turns());
      default -> same("turn(" + f + ")", real.turn(f), model.turn(f));
    }
  }

  private void heights(int which) {
    int x = odd() ? any() : left + random.nextInt(width + 1);
    int y = odd() ? any() : top + random.nextInt(height + 1);
    int a = number();
    int b = number();
    int i = upTo(8);
    boolean high = random.nextBoolean();
    switch (which) {
      case 25, 26, 27 -> same("height(" + x + ", " + y + ")", real.height(x, y), model.height(x, y));
      case 28 -> same("extreme(" + high + ")", real.extreme(high), model.extreme(high));
      case 29 -> same("apart(" + a + ", " + b + ")", real.apart(a, b), model.apart(a, b));
      case 30, 31, 32 -> same("step(" + a + ", " + b + ", " + i + ")", real.step(a, b, i), model.step(a, b, i));
      default -> same("meet(" + a + ", " + b + ", " + high + ")", real.meet(a, b, high), model.meet(a, b, high));
    }
  }

  private void sheets(int which) {
    int s = upTo(3);
    int t = upTo(3);
    int i = upTo(6);
    int k = upTo(6);
    int n = random.nextBoolean() ? 8 : upTo(9);
    int bits = odd() ? any() : new int[] {8, 8, 16, 32, 0}[random.nextInt(5)];
    int v = rowBits() | (random.nextInt() << 8);
    switch (which) {
      case 0 -> same("sheet(" + s + ", " + bits + ", " + n + ")", real.sheet(s, bits, n), model.sheet(s, bits, n));
      case 1, 2 -> same("put(" + s + ", " + i + ", " + v + ")", real.put(s, i, v), model.put(s, i, v));
      case 3 -> same("copy(" + s + ", " + i + ", " + t + ", " + k + ", " + n + ")",
          real.copy(s, i, t, k, n), model.copy(s, i, t, k, n));
      case 4 -> same("planks(" + s + ")", real.planks(s), model.planks(s));
      default -> {
        int what = upTo(3);
        same("all(" + what + ")", real.all(what), model.all(what));
      }
    }
  }
}
