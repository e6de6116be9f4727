import java.util.ArrayDeque;
import java.util.ArrayList;
import java.util.Arrays;
import java.util.HashMap;
import java.util.List;
import java.util.Map;

/**
 * The document read a second time, as slowly and plainly as can be: all layings are listed and
 * sorted, the fewest turns are found by trying all turns. For small floors only.
 */
final class Model {
  static final int BEYOND = -100001;
  static final int MISSING = -100002;
  static final int SIZE = -100003;
  static final int KIND = -100004;
  static final int FULL = -100005;
  static final int NONE = -100006;
  static final int TWICE = -100007;

  private record Told(int kind, int field, boolean across, int colour) {
    boolean glued() { return kind == 1 || kind == 2; }
    int other() { return across ? field + 8 : field + 1; }
  }

  private record Past(boolean[] floor, List<Told> stones, int hand) { }

  private boolean[] floor = new boolean[64];
  private List<Told> stones = new ArrayList<>();
  private int hand = -1;
  private final List<Past> pasts = new ArrayList<>();
  private final int[] sheetBits = new int[4];
  private final int[][] sheetNumbers = new int[4][];
  private int findings = 0;

  private List<int[]> layings = null;
  private Map<String, Integer> numbers = null;

  private int find(int f) { findings++; return f; }
  private static boolean field(int f) { return f >= 0 && f <= 63; }
  private static boolean dark(int x, int y) { return ((x + y) & 1) == 0; }
  private boolean at(int x, int y) { return at(floor, x, y); }
  private static boolean at(boolean[] set, int x, int y) {
    return x >= 0 && x <= 7 && y >= 0 && y <= 7 && set[8 * y + x];
  }

  // ---- the floor

  int row(int y, int bits) {
    if (y < 0 || y > 7 || bits < 0 || bits > 255) return find(BEYOND);
    boolean[] told = floor.clone();
    for (int x = 0; x < 8; x++) told[8 * y + x] = (bits >> x & 1) == 1;
    return become(told);
  }

  private int become(boolean[] told) {
    for (Told t : stones) if (!told[t.field] || !told[t.other()]) return find(TWICE);
    for (Told t : stones) if (t.kind == 3 && !touches(told, t)) return find(KIND);
    keep();
    if (!Arrays.equals(told, floor)) hand = -1;
    floor = told;
    layings = null;
    return size();
  }

  private void keep() {
    pasts.add(new Past(floor.clone(), new ArrayList<>(stones), hand));
    if (pasts.size() > 20) pasts.remove(0);
  }

  private int size() {
    int n = 0;
    for (boolean b : floor) if (b) n++;
    return n;
  }

  private static boolean touches(boolean[] set, Told t) {
    for (int f : new int[] {t.field, t.other()}) {
      int x = f % 8;
      int y = f / 8;
      if (!at(set, x - 1, y) || !at(set, x + 1, y) || !at(set, x, y - 1) || !at(set, x, y + 1)) return true;
    }
    return false;
  }

  int has(int f) { return field(f) ? (floor[f] ? 1 : 0) : find(BEYOND); }

  int floor(int what) {
    if (what == 0) return size();
    if (what == 1) {
      int n = 0;
      for (int f = 0; f < 64; f++) if (floor[f] && dark(f % 8, f / 8)) n++;
      return n;
    }
    if (what == 2) return pieces(true);
    if (what == 3) return whole() ? 1 : 0;
    return find(BEYOND);
  }

  /** Pieces of the floor, or of what is not of it, on the 10 by 10 places. */
  private int pieces(boolean ofFloor) {
    boolean[][] seen = new boolean[10][10];
    int n = 0;
    for (int y = 0; y < 10; y++) {
      for (int x = 0; x < 10; x++) {
        if (seen[y][x] || at(x - 1, y - 1) != ofFloor) continue;
        n++;
        ArrayDeque<int[]> todo = new ArrayDeque<>();
        todo.add(new int[] {x, y});
        seen[y][x] = true;
        while (!todo.isEmpty()) {
          int[] p = todo.remove();
          for (int[] d : new int[][] {{1, 0}, {-1, 0}, {0, 1}, {0, -1}}) {
            int u = p[0] + d[0];
            int v = p[1] + d[1];
            if (u < 0 || u > 9 || v < 0 || v > 9 || seen[v][u] || at(u - 1, v - 1) != ofFloor) continue;
            seen[v][u] = true;
            todo.add(new int[] {u, v});
          }
        }
      }
    }
    return n;
  }

  private boolean whole() {
    for (Told t : stones) if (t.glued()) return false;
    return size() > 0 && pieces(true) == 1 && pieces(false) == 1;
  }

  // ---- stones

  private boolean place(int f, boolean across) {
    return across ? f / 8 < 7 && floor[f] && floor[f + 8] : f % 8 < 7 && floor[f] && floor[f + 1];
  }

  int stone(int kind, int f, boolean across, int colour) {
    if (kind < 0 || kind > 3 || !field(f)) return find(BEYOND);
    if (kind == 2 ? colour < 1 || colour > 99 : colour != 0) return find(BEYOND);
    if (!place(f, across)) return find(SIZE);
    Told t = new Told(kind, f, across, colour);
    if (t.glued()) {
      for (Told o : stones) {
        if (o.glued() && (o.field == f || o.other() == f || o.field == t.other() || o.other() == t.other())) {
          return find(TWICE);
        }
      }
    }
    if (kind == 3 && !touches(floor, t)) return find(KIND);
    if (stones.size() == 20) return find(FULL);
    keep();
    stones.add(t);
    hand = -1;
    layings = null;
    return stones.size() - 1;
  }

  int loose() {
    if (stones.isEmpty()) return find(NONE);
    keep();
    stones.remove(stones.size() - 1);
    hand = -1;
    layings = null;
    return stones.size();
  }

  int as(int s, int kind) {
    if (s < 0 || s >= stones.size() || kind < 0 || kind > 3) return find(BEYOND);
    int[] above = {-1, 0, 1, 0};
    for (int k = stones.get(s).kind; k >= 0; k = above[k]) if (k == kind) return s;
    return find(KIND);
  }

  int told(int s, int what) {
    if (s < 0 || s >= stones.size() || what < 0 || what > 4) return find(BEYOND);
    Told t = stones.get(s);
    if (what == 0) return t.kind;
    if (what == 1) return t.field;
    if (what == 2) return t.across ? 1 : 0;
    if (what == 3) return t.colour;
    if (hand < 0) return -1;
    return begins(hand)[t.field] == (t.across ? 2 : 1) ? 1 : 0;
  }

  // ---- layings: of each FIELD what begins there, 0 nothing, 1 a stone ALONG, 2 one ACROSS

  private List<int[]> layings() {
    if (layings == null) {
      layings = new ArrayList<>();
      list(floor.clone(), new int[64]);
      layings.removeIf(l -> {
        for (Told t : stones) if (t.glued() && l[t.field] != (t.across ? 2 : 1)) return true;
        return false;
      });
      layings.sort((a, b) -> {
        for (int f = 0; f < 64; f++) if (a[f] != b[f]) return a[f] == 1 ? -1 : 1;
        return 0;
      });
      numbers = new HashMap<>();
      for (int i = 0; i < layings.size(); i++) numbers.put(Arrays.toString(layings.get(i)), i);
    }
    return layings;
  }

  // From the last FIELD back, so that the list is not in ORDER by itself.
  private void list(boolean[] open, int[] begins) {
    int f = 63;
    while (f >= 0 && !open[f]) f--;
    if (f < 0) { layings.add(begins.clone()); return; }
    open[f] = false;
    for (int way = 1; way <= 2; way++) {
      int g = way == 1 ? f - 1 : f - 8;
      if (g < 0 || (way == 1 && f % 8 == 0) || !open[g]) continue;
      open[g] = false;
      begins[g] = way;
      list(open, begins);
      begins[g] = 0;
      open[g] = true;
    }
    open[f] = true;
  }

  private int[] begins(int number) { return layings().get(number); }
  private boolean laying(int number) { return number >= 0 && number < layings().size(); }
  private int numberOf(int[] begins) {
    Integer n = numbers.get(Arrays.toString(begins));
    if (n == null) throw new IllegalStateException("no such laying");
    return n;
  }

  int count() { return layings().size(); }

  int with(int f, boolean across) {
    if (!field(f)) return find(BEYOND);
    if (!place(f, across)) return find(SIZE);
    int n = 0;
    for (int[] l : layings()) if (l[f] == (across ? 2 : 1)) n++;
    return n;
  }

  int lay(int number) {
    if (!laying(number)) return find(BEYOND);
    hand = number;
    return 1;
  }

  int rank() { return hand < 0 ? find(NONE) : hand; }

  int next() {
    if (hand < 0 || hand == count() - 1) return find(NONE);
    return ++hand;
  }

  int draw(int seed) {
    if (count() == 0) return find(NONE);
    String most = count() == 1 ? "" : Integer.toBinaryString(count() - 1);
    int x = seed;
    int number;
    do {
      StringBuilder bits = new StringBuilder("0");
      for (int i = 0; i < most.length(); i++) {
        x = (int) (1103515245L * x + 12345L);
        bits.append(x < 0 ? '1' : '0');
      }
      number = Integer.parseInt(bits.toString(), 2);
    } while (number >= count());
    return hand = number;
  }

  private int partnerIn(int[] l, int f) {
    if (l[f] == 1) return f + 1;
    if (l[f] == 2) return f + 8;
    if (f % 8 > 0 && l[f - 1] == 1) return f - 1;
    return f - 8;
  }

  int partner(int f) {
    if (!field(f)) return find(BEYOND);
    if (hand < 0 || !floor[f]) return find(NONE);
    return partnerIn(begins(hand), f);
  }

  /** The number after a TURN at a FIELD, -1 if there is no such. */
  private int turned(int number, int f) {
    int x = f % 8;
    int y = f / 8;
    if (x > 6 || y > 6) return -1;
    int[] four = {f, f + 1, f + 8, f + 9};
    for (int g : four) {
      if (!floor[g]) return -1;
      for (Told t : stones) if (t.glued() && (t.field == g || t.other() == g)) return -1;
      int p = partnerIn(begins(number), g);
      if (p != f && p != f + 1 && p != f + 8 && p != f + 9) return -1;
    }
    int[] l = begins(number).clone();
    if (l[f] == 1) { l[f] = 2; l[f + 1] = 2; l[f + 8] = 0; } else { l[f] = 1; l[f + 8] = 1; l[f + 1] = 0; }
    return numberOf(l);
  }

  int turns() {
    if (hand < 0) return find(NONE);
    int n = 0;
    for (int f = 0; f < 64; f++) if (turned(hand, f) >= 0) n++;
    return n;
  }

  int turn(int f) {
    if (!field(f) || f % 8 > 6 || f / 8 > 6) return find(BEYOND);
    if (hand < 0 || turned(hand, f) < 0) return find(NONE);
    return hand = turned(hand, f);
  }

  // ---- heights

  private boolean point(int x, int y) {
    return x >= 0 && x <= 8 && y >= 0 && y <= 8 && (at(x, y) || at(x - 1, y) || at(x, y - 1) || at(x - 1, y - 1));
  }

  private boolean together(int number, int x, int y, int u, int v) {
    return at(x, y) && at(u, v) && partnerIn(begins(number), 8 * y + x) == 8 * v + u;
  }

  /** Heights by going along all edges again and again; MAX_VALUE where there is no point. */
  private int[] heights(int number) {
    int none = Integer.MAX_VALUE;
    int[] h = new int[81];
    Arrays.fill(h, none);
    for (int p = 0; p < 81; p++) if (point(p % 9, p / 9)) { h[p] = 0; break; }
    boolean more = true;
    while (more) {
      more = false;
      for (int y = 0; y < 9; y++) {
        for (int x = 0; x < 9; x++) {
          // to the right: the place above is on the left hand, the one below on the right hand
          if (x < 8 && (at(x, y - 1) || at(x, y)) && !together(number, x, y - 1, x, y)) {
            more |= even(h, 9 * y + x, 9 * y + x + 1, dark(x, y - 1) ? 1 : -1);
          }
          // down: the place to the right of the edge is on the left hand
          if (y < 8 && (at(x, y) || at(x - 1, y)) && !together(number, x - 1, y, x, y)) {
            more |= even(h, 9 * y + x, 9 * y + 9 + x, dark(x, y) ? 1 : -1);
          }
        }
      }
    }
    return h;
  }

  private static boolean even(int[] h, int p, int q, int rise) {
    int none = Integer.MAX_VALUE;
    if (h[p] != none && h[q] == none) { h[q] = h[p] + rise; return true; }
    if (h[q] != none && h[p] == none) { h[p] = h[q] - rise; return true; }
    if (h[p] != none && h[q] - h[p] != rise) throw new IllegalStateException("heights do not agree");
    return false;
  }

  int height(int x, int y) {
    if (!whole()) return find(KIND);
    if (hand < 0 || !point(x, y)) return find(NONE);
    return heights(hand)[9 * y + x];
  }

  private int numberOfHeights(int[] h) {
    for (int i = 0; i < count(); i++) if (Arrays.equals(heights(i), h)) return i;
    throw new IllegalStateException("no laying of such heights");
  }

  private static int[] mixed(int[] g, int[] h, boolean greater) {
    int[] m = new int[81];
    for (int p = 0; p < 81; p++) m[p] = greater ? Math.max(g[p], h[p]) : Math.min(g[p], h[p]);
    return m;
  }

  int extreme(boolean highest) {
    if (!whole()) return find(KIND);
    if (count() == 0) return find(NONE);
    int[] h = heights(0);
    for (int i = 1; i < count(); i++) h = mixed(h, heights(i), highest);
    return numberOfHeights(h);
  }

  /** How many turns at least from each laying to one. */
  private int[] farFrom(int number) {
    int[] far = new int[count()];
    Arrays.fill(far, -1);
    far[number] = 0;
    ArrayDeque<Integer> todo = new ArrayDeque<>();
    todo.add(number);
    while (!todo.isEmpty()) {
      int n = todo.remove();
      for (int f = 0; f < 55; f++) {
        int m = turned(n, f);
        if (m >= 0 && far[m] < 0) { far[m] = far[n] + 1; todo.add(m); }
      }
    }
    return far;
  }

  int apart(int a, int b) {
    if (!whole()) return find(KIND);
    if (!laying(a) || !laying(b)) return find(BEYOND);
    return farFrom(b)[a];
  }

  int step(int a, int b, int i) {
    if (!whole()) return find(KIND);
    if (!laying(a) || !laying(b)) return find(BEYOND);
    int[] far = farFrom(b);
    if (i < 0 || i >= far[a]) return find(NONE);
    int now = a;
    for (int k = 0; ; k++) {
      int f = 0;
      while (turned(now, f) < 0 || far[turned(now, f)] >= far[now]) f++;
      if (k == i) return f;
      now = turned(now, f);
    }
  }

  int meet(int a, int b, boolean join) {
    if (!whole()) return find(KIND);
    if (!laying(a) || !laying(b)) return find(BEYOND);
    return numberOfHeights(mixed(heights(a), heights(b), join));
  }

  // ---- why there is none

  private static int most(boolean[] open, int from, Map<String, Integer> known) {
    int f = from;
    while (f < 64 && !open[f]) f++;
    if (f == 64) return 0;
    StringBuilder key = new StringBuilder();
    for (int g = f; g < 64; g++) if (open[g]) key.append((char) ('0' + g));
    Integer old = known.get(key.toString());
    if (old != null) return old;
    open[f] = false;
    int best = most(open, f + 1, known);
    for (int g : new int[] {f + 1, f + 8}) {
      if (g > 63 || (g == f + 1 && f % 8 == 7) || !open[g]) continue;
      open[g] = false;
      best = Math.max(best, 1 + most(open, f + 1, known));
      open[g] = true;
    }
    open[f] = true;
    known.put(key.toString(), best);
    return best;
  }

  private int darkCount() {
    int n = 0;
    for (int f = 0; f < 64; f++) if (floor[f] && dark(f % 8, f / 8)) n++;
    return n;
  }

  int lack() { return darkCount() - most(floor.clone(), 0, new HashMap<>()); }

  int lacking(int f) {
    if (!field(f)) return find(BEYOND);
    if (!floor[f] || !dark(f % 8, f / 8)) return 0;
    boolean[] less = floor.clone();
    less[f] = false;
    return most(less, 0, new HashMap<>()) == most(floor.clone(), 0, new HashMap<>()) ? 1 : 0;
  }

  // ---- sheets, the whole

  private static boolean sheetNumber(int s) { return s >= 0 && s <= 3; }

  int sheet(int s, int bits, int n) {
    if (!sheetNumber(s) || (bits != 0 && bits != 8 && bits != 16 && bits != 32)) return find(BEYOND);
    if (n < 0) return find(SIZE);
    if (n > 16) return find(BEYOND);
    sheetBits[s] = bits;
    sheetNumbers[s] = bits == 0 ? null : new int[n];
    return bits == 0 ? 0 : n;
  }

  int put(int s, int i, int v) {
    if (!sheetNumber(s)) return find(BEYOND);
    if (sheetNumbers[s] == null) return find(MISSING);
    if (i < 0 || i >= sheetNumbers[s].length) return find(BEYOND);
    sheetNumbers[s][i] = sheetBits[s] == 8 ? (byte) v : sheetBits[s] == 16 ? (short) v : v;
    return 0;
  }

  int copy(int s, int from, int t, int to, int n) {
    if (!sheetNumber(s) || !sheetNumber(t)) return find(BEYOND);
    if (sheetNumbers[s] == null || sheetNumbers[t] == null) return find(MISSING);
    if (sheetBits[s] != sheetBits[t]) return find(KIND);
    if (from < 0 || to < 0 || n < 0) return find(BEYOND);
    if ((long) from + n > sheetNumbers[s].length || (long) to + n > sheetNumbers[t].length) return find(BEYOND);
    int[] taken = Arrays.copyOfRange(sheetNumbers[s], from, from + n);
    for (int i = 0; i < n; i++) sheetNumbers[t][to + i] = taken[i];
    return n;
  }

  int planks(int s) {
    if (!sheetNumber(s)) return find(BEYOND);
    if (sheetNumbers[s] == null) return find(MISSING);
    if (sheetNumbers[s].length > 8) return find(SIZE);
    boolean[] told = new boolean[64];
    for (int f = 0; f < 64; f++) {
      told[f] = f / 8 < sheetNumbers[s].length && (sheetNumbers[s][f / 8] >> (f % 8) & 1) == 1;
    }
    return become(told);
  }

  int undo() {
    if (pasts.isEmpty()) return find(NONE);
    Past past = pasts.remove(pasts.size() - 1);
    floor = past.floor;
    stones = past.stones;
    hand = past.hand;
    layings = null;
    return pasts.size();
  }

  int all(int what) {
    if (what == 0) return stones.size();
    if (what == 1) return (int) stones.stream().filter(Told::glued).count();
    if (what == 2) return hand < 0 ? 0 : 1;
    if (what == 3) return findings;
    return find(BEYOND);
  }
}
