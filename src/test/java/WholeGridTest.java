import java.util.Random;

/** Floors too large for the slow model, by what must hold among the answers. */
public final class WholeGridTest {
  private static final Due DUE = new Due();

  public static void main(String[] args) {
    int[] whole = {255, 255, 255, 255, 255, 255, 255, 255};
    int[] bay = {255, 255, 0b11100111, 0b11100111, 255, 255, 126, 255};
    int[] stairs = {15, 15, 63, 63, 252, 252, 255, 240};
    int[] diamond = {24, 60, 126, 255, 255, 126, 60, 24};
    int[][] floors = {whole, stairs, diamond};
    for (int[] rows : floors) {
      places(told(rows));
      order(told(rows));
      ways(told(rows));
      lattice(told(rows));
    }
    places(told(bay));
    order(told(bay));
    places(glued(whole));
    order(glued(whole));
    lacks();
    DUE.is("diamond", told(diamond).count(), 1024);
    DUE.is("diamond apart", told(diamond).apart(told(diamond).extreme(true), told(diamond).extreme(false)), 30);
    DUE.end();
  }

  private static ParquetLayer told(int[] rows) {
    ParquetLayer p = new ParquetLayer();
    for (int y = 0; y < 8; y++) p.row(y, rows[y]);
    return p;
  }

  private static ParquetLayer glued(int[] rows) {
    ParquetLayer p = told(rows);
    p.stone(1, 1, false, 0);
    p.stone(2, 27, true, 5);
    p.stone(1, 61, false, 0);
    p.stone(0, 0, true, 0);
    return p;
  }

  /** Each FIELD is covered once in each LAYING: the counts of its places sum up to COUNT. */
  private static void places(ParquetLayer p) {
    int total = p.count();
    for (int f = 0; f < 64; f++) {
      if (p.has(f) == 0) continue;
      int sum = Math.max(0, p.with(f, false)) + Math.max(0, p.with(f, true));
      if (f % 8 > 0) sum += Math.max(0, p.with(f - 1, false));
      if (f >= 8) sum += Math.max(0, p.with(f - 8, true));
      DUE.is("places of " + f, sum, total);
    }
  }

  /** Of two LAYINGS in a row the first one has the stone ALONG where they first differ. */
  private static void order(ParquetLayer p) {
    Random random = new Random(5);
    int total = p.count();
    for (int i = 0; i < 60; i++) {
      int a = random.nextInt(total - 1);
      p.lay(a);
      int[] first = partners(p);
      DUE.is("next", p.next(), a + 1);
      int[] second = partners(p);
      p.lay(a + 1);
      DUE.holds("next is the laying of its number", java.util.Arrays.equals(second, partners(p)));
      int f = 0;
      while (first[f] == second[f]) f++;
      DUE.is("along is ahead", first[f], f + 1);
      DUE.is("across is behind", second[f], f + 8);
    }
    p.lay(total - 1);
    DUE.is("last", p.next(), -100006);
  }

  private static int[] partners(ParquetLayer p) {
    int[] partners = new int[64];
    for (int f = 0; f < 64; f++) {
      partners[f] = p.has(f) == 1 ? p.partner(f) : -1;
      if (p.has(f) == 1) DUE.is("partner of partner", p.partner(partners[f]), f);
    }
    return partners;
  }

  /** THE WAY is made of turns, is as long as APART, and each of its fields is the least that helps. */
  private static void ways(ParquetLayer p) {
    Random random = new Random(6);
    int total = p.count();
    for (int i = 0; i < 12; i++) {
      int a = i < 4 ? p.extreme(i % 2 == 0) : random.nextInt(total);
      int b = i < 2 ? p.extreme(i % 2 != 0) : random.nextInt(total);
      int far = p.apart(a, b);
      DUE.is("apart from both sides", p.apart(b, a), far);
      int now = a;
      for (int k = 0; k < far; k++) {
        int field = p.step(a, b, k);
        DUE.is("least field", field, leastHelping(p, now, b));
        p.lay(now);
        now = p.turn(field);
      }
      DUE.is("there", now, b);
      DUE.is("no further", p.step(a, b, far), -100006);
    }
  }

  private static int leastHelping(ParquetLayer p, int now, int b) {
    int far = p.apart(now, b);
    for (int f = 0; f < 55; f++) {
      p.lay(now);
      int then = p.turn(f);
      if (then >= 0 && p.apart(then, b) < far) return f;
    }
    return -1;
  }

  private static int[] heights(ParquetLayer p, int number) {
    p.lay(number);
    int[] h = new int[81];
    for (int i = 0; i < 81; i++) h[i] = p.height(i % 9, i / 9);
    return h;
  }

  private static void lattice(ParquetLayer p) {
    Random random = new Random(7);
    int total = p.count();
    int[] low = heights(p, p.extreme(false));
    int[] high = heights(p, p.extreme(true));
    for (int i = 0; i < 40; i++) {
      int a = random.nextInt(total);
      int b = random.nextInt(total);
      int[] ha = heights(p, a);
      int[] hb = heights(p, b);
      int[] meet = heights(p, p.meet(a, b, false));
      int[] join = heights(p, p.meet(a, b, true));
      int sum = 0;
      for (int q = 0; q < 81; q++) {
        DUE.is("meet at " + q, meet[q], Math.min(ha[q], hb[q]));
        DUE.is("join at " + q, join[q], Math.max(ha[q], hb[q]));
        DUE.holds("between the extremes", low[q] <= ha[q] && ha[q] <= high[q]);
        sum += Math.abs(ha[q] - hb[q]);
      }
      DUE.is("apart", p.apart(a, b), sum / 4);
    }
  }

  /** LACK and LACKING of floors of all sizes against the slow model. */
  private static void lacks() {
    Random random = new Random(8);
    for (int i = 0; i < 60; i++) {
      ParquetLayer p = new ParquetLayer();
      Model m = new Model();
      for (int y = 0; y < 8; y++) {
        int bits = random.nextInt(256) | (i % 3 > 0 ? random.nextInt(256) : 0) | (i % 3 > 1 ? random.nextInt(256) : 0);
        p.row(y, bits);
        m.row(y, bits);
      }
      DUE.is("pieces", p.floor(2), m.floor(2));
      DUE.is("whole", p.floor(3), m.floor(3));
      DUE.is("lack", p.lack(), m.lack());
      for (int k = 0; k < 6; k++) {
        int f = random.nextInt(64);
        DUE.is("lacking " + f, p.lacking(f), m.lacking(f));
      }
    }
  }
}
