import java.util.Random;

/**
 * Floors that sprawl over the grid, with bays and arms, but with few LAYINGS: every call on them
 * against the slow model.
 */
public final class WideFloorsTest {
  private static final int FLOORS = 150;
  private static final int MOST_LAYINGS = 150;
  private static final Due DUE = new Due();

  private final Random random;
  private final boolean[] floor = new boolean[64];
  private final ParquetLayer p = new ParquetLayer();
  private final Model m = new Model();

  private WideFloorsTest(long seed) { random = new Random(seed); }

  public static void main(String[] args) {
    int whole = 0;
    for (int seed = 0; whole < FLOORS && seed < 40 * FLOORS; seed++) {
      if (new WideFloorsTest(seed).compare(seed)) whole++;
    }
    DUE.is("WHOLE floors", whole, FLOORS);
    DUE.end();
  }

  private boolean compare(int seed) {
    grow(10 + random.nextInt(18));
    for (int y = 0; y < 8; y++) {
      int bits = 0;
      for (int x = 0; x < 8; x++) if (floor[8 * y + x]) bits |= 1 << x;
      p.row(y, bits);
      m.row(y, bits);
    }
    int count = p.count();
    if (p.floor(3) == 0 || count < 2 || count > MOST_LAYINGS) return false;
    String name = "floor " + seed + ": ";
    DUE.is(name + "count()", count, m.count());
    DUE.is(name + "WHOLE", 1, m.floor(3));
    DUE.is(name + "extreme(false)", p.extreme(false), m.extreme(false));
    DUE.is(name + "extreme(true)", p.extreme(true), m.extreme(true));
    for (int i = 0; i < 4; i++) pair(name, random.nextInt(count), random.nextInt(count));
    pair(name, p.extreme(true), p.extreme(false));
    hand(name, random.nextInt(count));
    return true;
  }

  /** Stones are added beside what is there, so that there is a LAYING at least. */
  private void grow(int stones) {
    int left = stones;
    for (int tries = 0; tries < 2000 && left > 0; tries++) {
      int f = random.nextInt(64);
      boolean across = random.nextBoolean();
      if (across ? f > 55 : f % 8 == 7) continue;
      int g = across ? f + 8 : f + 1;
      int around = around(f) + around(g);
      if (floor[f] || floor[g] || left < stones && around == 0 || around > 2) continue;
      floor[f] = true;
      floor[g] = true;
      left--;
    }
  }

  private int around(int f) {
    int n = 0;
    if (f % 8 > 0 && floor[f - 1]) n++;
    if (f % 8 < 7 && floor[f + 1]) n++;
    if (f > 7 && floor[f - 8]) n++;
    if (f < 56 && floor[f + 8]) n++;
    return n;
  }

  private void pair(String name, int a, int b) {
    String two = name + a + " and " + b + ", ";
    int far = m.apart(a, b);
    DUE.is(two + "apart", p.apart(a, b), far);
    for (int i = 0; i <= far; i++) DUE.is(two + "step " + i, p.step(a, b, i), m.step(a, b, i));
    DUE.is(two + "meet", p.meet(a, b, false), m.meet(a, b, false));
    DUE.is(two + "join", p.meet(a, b, true), m.meet(a, b, true));
  }

  private void hand(String name, int number) {
    DUE.is(name + "lay", p.lay(number), m.lay(number));
    DUE.is(name + "rank", p.rank(), m.rank());
    DUE.is(name + "turns", p.turns(), m.turns());
    DUE.is(name + "lack", p.lack(), m.lack());
    for (int y = 0; y < 9; y++) {
      for (int x = 0; x < 9; x++) DUE.is(name + "height " + x + ", " + y, p.height(x, y), m.height(x, y));
    }
    for (int f = 0; f < 64; f++) {
      DUE.is(name + "partner " + f, p.partner(f), m.partner(f));
      DUE.is(name + "with ALONG " + f, p.with(f, false), m.with(f, false));
      DUE.is(name + "with ACROSS " + f, p.with(f, true), m.with(f, true));
    }
    for (int f = 0; f < 64; f++) DUE.is(name + "turn " + f, p.turn(f), m.turn(f));
  }
}
