import java.lang.management.ManagementFactory;

/**
 * All calls of a run live in one room of some 7.3 million fields and elements: what the dearest runs
 * of 512 calls take of the heap stays far below that.
 */
public final class RoomTest {
  private static final com.sun.management.ThreadMXBean HEAP =
      (com.sun.management.ThreadMXBean) ManagementFactory.getThreadMXBean();
  private static final int CALLS = 500;
  // an element of the largest rows takes 4 bytes, a small object some 40
  private static final long MOST_BYTES_OF_A_RUN = 200_000;
  private static final long MOST_BYTES_OF_AN_OBJECT = 80_000;
  private static final Due DUE = new Due();

  public static void main(String[] args) {
    // the first round lets the machine load what it needs itself
    for (int round = 0; round < 2; round++) {
      boolean counts = round == 1;
      run(counts, "lay", (p, i) -> p.lay(25931 * i));
      run(counts, "next", (p, i) -> p.next());
      run(counts, "draw", (p, i) -> p.draw(i));
      run(counts, "turn", (p, i) -> p.turn(i % 55));
      run(counts, "with", (p, i) -> p.with(i % 64, i % 2 == 0));
      run(counts, "height", (p, i) -> p.height(i % 9, i / 9 % 9));
      run(counts, "extreme", (p, i) -> p.extreme(i % 2 == 0));
      run(counts, "apart", (p, i) -> p.apart(i, 12988815 - i));
      run(counts, "step", (p, i) -> p.step(711201, 6771437, i % 84));
      run(counts, "meet", (p, i) -> p.meet(i, 12988815 - 25931 * i, i % 2 == 0));
      run(counts, "lacking", (p, i) -> p.lacking(i % 64));
      run(counts, "row, count", (p, i) -> i % 2 == 0 ? p.row(i / 2 % 8, i % 256) : p.count());
      run(counts, "stone, loose", (p, i) -> i % 2 == 0 ? p.stone(1, i % 8, true, 0) : p.loose());
      run(counts, "row, undo", (p, i) -> i % 2 == 0 ? p.row(i / 2 % 8, i % 256) : p.undo());
      run(counts, "sheet, planks", (p, i) -> i % 2 == 0 ? p.sheet(i / 2 % 4, 8, i % 9) : p.planks(i / 2 % 4));
    }
    DUE.end();
  }

  private interface Call { int on(ParquetLayer p, int i); }

  private static long taken() { return HEAP.getThreadAllocatedBytes(Thread.currentThread().getId()); }

  private static void run(boolean counts, String name, Call call) {
    long before = taken();
    ParquetLayer p = new ParquetLayer();
    for (int y = 0; y < 8; y++) p.row(y, 255);
    p.lay(0);
    long made = taken();
    for (int i = 0; i < CALLS; i++) call.on(p, i);
    long after = taken();
    if (!counts) return;
    DUE.holds(name + ": an object took " + (made - before), made - before < MOST_BYTES_OF_AN_OBJECT);
    DUE.holds(name + ": " + CALLS + " calls took " + (after - made), after - made < MOST_BYTES_OF_A_RUN);
  }
}
