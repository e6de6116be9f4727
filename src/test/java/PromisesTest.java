/** Each promise of the document by its number. */
public final class PromisesTest {
  private static final int BEYOND = -100001;
  private static final int MISSING = -100002;
  private static final int SIZE = -100003;
  private static final int KIND = -100004;
  private static final int FULL = -100005;
  private static final int NONE = -100006;
  private static final int TWICE = -100007;
  private static final int MIN = Integer.MIN_VALUE;
  private static final int MAX = Integer.MAX_VALUE;

  private static final Due DUE = new Due();

  private static void due(String what, int got, int due) { DUE.is(what, got, due); }

  /** A floor of rows from 0 on. */
  private static ParquetLayer rows(int... bits) {
    ParquetLayer p = new ParquetLayer();
    for (int y = 0; y < bits.length; y++) p.row(y, bits[y]);
    return p;
  }

  public static void main(String[] args) {
    promise1();
    promise2();
    promise3();
    promise4();
    promise5();
    promise6();
    promise7();
    promise8();
    promise9();
    promise10();
    promise11();
    promise12();
    promise13();
    promise14();
    promise15();
    promise16();
    promise17();
    promise18();
    promise19();
    promise20();
    promise21();
    promise22();
    promise23();
    promise24();
    promise25();
    promise26();
    promise27();
    promise28();
    promise29();
    promise30();
    DUE.end();
  }

  private static void promise1() {
    ParquetLayer p = new ParquetLayer();
    due("1 floor", p.floor(0), 0);
    due("1 stones", p.all(0), 0);
    due("1 hand", p.all(2), 0);
    due("1 findings", p.all(3), 0);
    for (int s = 0; s < 4; s++) due("1 sheet", p.put(s, 0, 0), MISSING);
    due("1 undo", p.undo(), NONE);
    ParquetLayer other = rows(3);
    due("1 objects share nothing", p.floor(0) * 10 + other.floor(0), 2);
  }

  private static void promise2() {
    ParquetLayer p = new ParquetLayer();
    due("2 row", p.row(0, 129), 2);
    due("2 last row", p.row(7, 255), 10);
    due("2 row anew", p.row(0, 6), 10);
    due("2 has 0", p.has(0), 0);
    due("2 has 1", p.has(1), 1);
    due("2 has 63", p.has(63), 1);
    due("2 y -1", p.row(-1, 0), BEYOND);
    due("2 y 8", p.row(8, 0), BEYOND);
    due("2 y MIN", p.row(MIN, 0), BEYOND);
    due("2 bits -1", p.row(0, -1), BEYOND);
    due("2 bits 256", p.row(0, 256), BEYOND);
    due("2 bits MAX", p.row(0, MAX), BEYOND);
    due("2 unchanged", p.floor(0), 10);

    ParquetLayer q = rows(7, 7);
    due("2 a STONE", q.stone(0, 0, true, 0), 0);
    due("2 TWICE upper", q.row(0, 6), TWICE);
    due("2 TWICE lower", q.row(1, 6), TWICE);
    due("2 still", q.floor(0), 6);
    due("2 others may go", q.row(1, 1), 4);

    ParquetLayer e = rows(0, 0b1111110, 0b1111110, 0b1111110, 0b1111110);
    due("2 EDGE", e.stone(3, 17, false, 0), 0);
    due("2 EDGE still at 16", e.row(1, 255), 26);
    due("2 EDGE closed in", e.row(2, 127), KIND);
    due("2 TWICE ahead of KIND", e.row(2, 0b1111101), TWICE);
    due("2 EDGE open by a row under", e.row(3, 0), 20);
    due("2 now it may", e.row(2, 127), 21);

    ParquetLayer h = rows(15, 15);
    h.lay(1);
    due("2 same row", h.row(0, 15), 8);
    due("2 hand stays if the floor does", h.rank(), 1);
    due("2 other row", h.row(0, 3), 6);
    due("2 hand goes with the floor", h.rank(), NONE);
    h.lay(0);
    due("2 finding", h.row(9, 0), BEYOND);
    due("2 a finding changes nothing", h.rank(), 0);
  }

  private static void promise3() {
    ParquetLayer p = rows(0b10000001, 0b10);
    due("3 has 0", p.has(0), 1);
    due("3 has 7", p.has(7), 1);
    due("3 has 9", p.has(9), 1);
    due("3 has 8", p.has(8), 0);
    due("3 has 63", p.has(63), 0);
    due("3 has -1", p.has(-1), BEYOND);
    due("3 has 64", p.has(64), BEYOND);
    due("3 has MIN", p.has(MIN), BEYOND);
    due("3 has MAX", p.has(MAX), BEYOND);
  }

  private static void promise4() {
    ParquetLayer p = new ParquetLayer();
    for (int what = 0; what < 4; what++) due("4 no floor " + what, p.floor(what), 0);
    p.row(0, 0b10000111);
    p.row(1, 0b00000001);
    p.row(2, 0b10000010);
    due("4 fields", p.floor(0), 7);
    due("4 dark", p.floor(1), 2);
    due("4 pieces", p.floor(2), 4);
    due("4 not whole", p.floor(3), 0);
    due("4 what 4", p.floor(4), BEYOND);
    due("4 what -1", p.floor(-1), BEYOND);
    due("4 row ends are not beside", rows(128, 1).floor(2), 2);
    due("4 one field is whole", rows(0, 0, 8).floor(3), 1);
    due("4 ring", rows(7, 5, 7).floor(3), 0);
    due("4 ring at the rim", rows(0, 0, 0, 0, 0, 0b11100000, 0b10100000, 0b11100000).floor(3), 0);
    due("4 ring with a mouth", rows(7, 5, 5).floor(3), 1);
    due("4 hole that only touches by a corner", rows(15, 13, 11, 3).floor(3), 0);
    due("4 corner of two fields", rows(3, 5, 7, 0).floor(3), 0);
    due("4 all", rows(255, 255, 255, 255, 255, 255, 255, 255).floor(3), 1);
    due("4 a snake", rows(255, 128, 255, 1, 255, 128, 255, 1).floor(2), 1);
    due("4 a snake is whole", rows(255, 128, 255, 1, 255, 128, 255, 1).floor(3), 1);
    ParquetLayer g = rows(3, 3);
    g.stone(0, 0, false, 0);
    due("4 whole with a STONE", g.floor(3), 1);
    g.stone(1, 0, false, 0);
    due("4 not with a GLUED one", g.floor(3), 0);
    g.loose();
    g.stone(2, 0, false, 9);
    due("4 nor an INLAID one", g.floor(3), 0);
  }

  private static void promise5() {
    ParquetLayer p = rows(15, 15, 15);
    due("5 first", p.stone(0, 0, false, 0), 0);
    due("5 same place again", p.stone(0, 0, false, 0), 1);
    due("5 glued", p.stone(1, 9, false, 0), 2);
    due("5 glued over glued", p.stone(1, 10, false, 0), TWICE);
    due("5 inlaid over glued", p.stone(2, 2, true, 1), TWICE);
    due("5 edge over glued", p.stone(3, 10, true, 0), 3);
    due("5 inlaid", p.stone(2, 0, false, 99), 4);
    due("5 glued over inlaid", p.stone(1, 1, false, 0), TWICE);
    due("5 kind -1", p.stone(-1, 0, false, 0), BEYOND);
    due("5 kind 4", p.stone(4, 0, false, 0), BEYOND);
    due("5 field -1", p.stone(0, -1, false, 0), BEYOND);
    due("5 field 64", p.stone(0, 64, false, 0), BEYOND);
    due("5 colour of a STONE", p.stone(0, 0, false, 1), BEYOND);
    due("5 colour of an EDGE", p.stone(3, 0, false, -1), BEYOND);
    due("5 colour 0", p.stone(2, 16, false, 0), BEYOND);
    due("5 colour 100", p.stone(2, 16, false, 100), BEYOND);
    due("5 BEYOND ahead of SIZE", p.stone(0, 63, false, 5), BEYOND);
    due("5 beyond the grid", rows(128, 129).stone(0, 7, false, 0), SIZE);
    due("5 under the grid", rows(0, 0, 0, 0, 0, 0, 0, 255).stone(0, 56, true, 0), SIZE);
    due("5 second not of the floor", p.stone(0, 3, false, 0), SIZE);
    due("5 first not of the floor", rows(2).stone(0, 0, false, 0), SIZE);
    due("5 across not of the floor", p.stone(0, 16, true, 0), SIZE);
    due("5 how many", p.all(0), 5);

    ParquetLayer deep = rows(0, 63 << 1, 63 << 1, 63 << 1, 63 << 1);
    due("5 EDGE that touches nothing", deep.stone(3, 19, true, 0), KIND);
    due("5 the same as a STONE", deep.stone(0, 19, true, 0), 0);
    due("5 EDGE that touches by its second FIELD", deep.stone(3, 27, true, 0), 1);
    due("5 EDGE that touches by its end", deep.stone(3, 17, false, 0), 2);
    due("5 EDGE at the rim of the grid", rows(255, 255).stone(3, 1, true, 0), 0);

    ParquetLayer f = rows(255, 255, 255, 255, 255);
    for (int i = 0; i < 20; i++) due("5 of twenty", f.stone(0, i, true, 0), i);
    due("5 FULL", f.stone(0, 0, true, 0), FULL);
    due("5 KIND ahead of FULL", f.stone(3, 18, false, 0), KIND);
    f.loose();
    due("5 room again", f.stone(1, 0, true, 0), 19);
    due("5 TWICE ahead of FULL", f.stone(1, 0, true, 0), TWICE);

    ParquetLayer h = rows(15, 15);
    h.lay(2);
    due("5 finding", h.stone(0, 3, false, 0), SIZE);
    due("5 hand after a finding", h.rank(), 2);
    h.stone(0, 0, false, 0);
    due("5 hand after a STONE", h.rank(), NONE);
  }

  private static void promise6() {
    ParquetLayer p = rows(15, 15);
    due("6 none", p.loose(), NONE);
    p.stone(1, 0, false, 0);
    p.stone(2, 2, true, 7);
    due("6 count glued", p.count(), 1);
    due("6 loose", p.loose(), 1);
    due("6 it was the latest", p.told(0, 0), 1);
    due("6 no more", p.told(1, 0), BEYOND);
    p.lay(0);
    due("6 loose", p.loose(), 0);
    due("6 hand", p.rank(), NONE);
    due("6 count", p.count(), 5);
    due("6 none again", p.loose(), NONE);
  }

  private static void promise7() {
    ParquetLayer p = rows(255, 255);
    p.stone(0, 0, false, 0);
    p.stone(1, 0, false, 0);
    p.stone(2, 2, false, 5);
    p.stone(3, 4, false, 0);
    int[][] fits = {{1, 0, 0, 0}, {1, 1, 0, 0}, {1, 1, 1, 0}, {1, 0, 0, 1}};
    for (int s = 0; s < 4; s++) {
      for (int kind = 0; kind < 4; kind++) {
        due("7 as(" + s + ", " + kind + ")", p.as(s, kind), fits[s][kind] == 1 ? s : KIND);
      }
    }
    due("7 stone -1", p.as(-1, 0), BEYOND);
    due("7 stone 4", p.as(4, 0), BEYOND);
    due("7 kind -1", p.as(0, -1), BEYOND);
    due("7 kind 4", p.as(0, 4), BEYOND);
    due("7 MAX", p.as(MAX, MAX), BEYOND);
  }

  private static void promise8() {
    ParquetLayer p = rows(15, 15);
    p.stone(2, 2, true, 99);
    p.stone(0, 0, false, 0);
    int[] first = {2, 2, 1, 99, -1};
    int[] second = {0, 0, 0, 0, -1};
    for (int what = 0; what < 5; what++) {
      due("8 told 0 " + what, p.told(0, what), first[what]);
      due("8 told 1 " + what, p.told(1, what), second[what]);
    }
    due("8 -1 is no finding", p.all(3), 0);
    p.lay(0);
    due("8 glued lies", p.told(0, 4), 1);
    due("8 lies", p.told(1, 4), 1);
    p.lay(1);
    due("8 glued lies", p.told(0, 4), 1);
    due("8 lies not so", p.told(1, 4), 0);
    due("8 stone 2", p.told(2, 0), BEYOND);
    due("8 stone -1", p.told(-1, 0), BEYOND);
    due("8 what 5", p.told(0, 5), BEYOND);
    due("8 what -1", p.told(0, -1), BEYOND);
  }

  private static void promise9() {
    due("9 no floor", new ParquetLayer().count(), 1);
    due("9 one field", rows(1).count(), 0);
    due("9 two fields", rows(3).count(), 1);
    due("9 two that are not beside", rows(5).count(), 0);
    due("9 row ends", rows(128, 1).count(), 0);
    due("9 2 by 2", rows(3, 3).count(), 2);
    int[] ladders = {1, 2, 3, 5, 8, 13, 21, 34};
    for (int n = 1; n <= 8; n++) {
      due("9 2 rows of " + n, rows((1 << n) - 1, (1 << n) - 1).count(), ladders[n - 1]);
    }
    due("9 3 rows of 4", rows(15, 15, 15).count(), 11);
    due("9 4 by 4", rows(15, 15, 15, 15).count(), 36);
    due("9 6 by 6", rows(63, 63, 63, 63, 63, 63).count(), 6728);
    due("9 8 by 8", rows(255, 255, 255, 255, 255, 255, 255, 255).count(), 12988816);
    due("9 without two corners", rows(254, 255, 255, 255, 255, 255, 255, 127).count(), 0);
    ParquetLayer g = rows(15, 15, 15, 15);
    g.stone(0, 5, false, 0);
    due("9 a STONE", g.count(), 36);
    g.stone(1, 9, false, 0);
    due("9 glued amid", g.count(), g.with(9, false));
    due("9 glued amid", g.count(), 6);
  }

  private static void promise10() {
    ParquetLayer p = rows(15, 15, 15);
    due("10 along", p.with(0, false), 7);
    due("10 across", p.with(0, true), 4);
    due("10 field -1", p.with(-1, false), BEYOND);
    due("10 field 64", p.with(64, true), BEYOND);
    due("10 not of the floor", p.with(40, true), SIZE);
    due("10 second not of the floor", p.with(3, false), SIZE);
    due("10 under", p.with(16, true), SIZE);
    ParquetLayer all = rows(255, 255, 255, 255, 255, 255, 255, 255);
    due("10 beyond the grid", all.with(7, false), SIZE);
    due("10 under the grid", all.with(63, true), SIZE);
    due("10 corner", all.with(0, false), 6494408);
    due("10 last", all.with(55, true), 6494408);
    ParquetLayer g = rows(15, 15);
    g.stone(1, 1, false, 0);
    due("10 the glued one", g.with(1, false), 1);
    due("10 over the glued one", g.with(1, true), 0);
    due("10 beside", g.with(9, false), 1);
    due("10 none with it", g.with(8, false), 0);
    due("10 no laying", rows(7).with(0, false), 0);
  }

  private static void promise11() {
    ParquetLayer p = rows(15, 15);
    due("11 -1", p.lay(-1), BEYOND);
    due("11 5", p.lay(5), BEYOND);
    due("11 MAX", p.lay(MAX), BEYOND);
    due("11 none in hand", p.all(2), 0);
    // 0: all along; 1: along, then two across; 2: across, along amid, across; 3: two across, then
    // along; 4: all across
    int[] ofOne = {0, 0, 2, 9, 9};
    int[] ofTwo = {3, 10, 1, 3, 10};
    for (int n = 0; n < 5; n++) {
      due("11 lay " + n, p.lay(n), 1);
      due("11 partner of 1 in " + n, p.partner(1), ofOne[n]);
      due("11 partner of 2 in " + n, p.partner(2), ofTwo[n]);
    }
    due("11 finding", p.lay(5), BEYOND);
    due("11 stays in hand", p.rank(), 4);
    due("11 the floor of none", new ParquetLayer().lay(0), 1);
    due("11 no laying", rows(1).lay(0), BEYOND);
  }

  private static void promise12() {
    ParquetLayer p = rows(15, 15, 15, 15);
    due("12 none", p.rank(), NONE);
    for (int n = 0; n < 36; n++) {
      p.lay(n);
      due("12 rank " + n, p.rank(), n);
    }
    p.stone(1, 0, false, 0);
    due("12 none again", p.rank(), NONE);
    int total = p.count();
    for (int n = 0; n < total; n++) {
      p.lay(n);
      due("12 rank glued " + n, p.rank(), n);
    }
  }

  private static void promise13() {
    ParquetLayer p = rows(7, 7);
    due("13 none in hand", p.next(), NONE);
    p.lay(0);
    due("13 next", p.next(), 1);
    due("13 it is in hand", p.partner(1), 2);
    due("13 next", p.next(), 2);
    due("13 last", p.next(), NONE);
    due("13 stays", p.rank(), 2);
    ParquetLayer none = new ParquetLayer();
    none.lay(0);
    due("13 the only one", none.next(), NONE);
  }

  private static void promise14() {
    ParquetLayer p = rows(15, 15, 15);
    due("14 seed 5", p.draw(5), 4);
    due("14 in hand", p.rank(), 4);
    due("14 seed -7", p.draw(-7), 4);
    boolean[] seen = new boolean[11];
    int kinds = 0;
    for (int seed = 0; seed < 400; seed++) {
      int n = p.draw(seed * 7919);
      due("14 below COUNT", n >= 0 && n < 11 ? 1 : 0, 1);
      if (n >= 0 && n < 11 && !seen[n]) { seen[n] = true; kinds++; }
    }
    due("14 all come", kinds, 11);
    due("14 of one", rows(3).draw(99), 0);
    due("14 of no fields", new ParquetLayer().draw(MIN), 0);
    ParquetLayer none = rows(1);
    due("14 none", none.draw(1), NONE);
    due("14 none in hand", none.all(2), 0);
    ParquetLayer two = rows(3, 3);
    for (int seed = -50; seed < 50; seed++) {
      due("14 one bit", two.draw(seed), 1103515245 * seed + 12345 < 0 ? 1 : 0);
    }
  }

  private static void promise15() {
    ParquetLayer p = rows(7, 7);
    due("15 none in hand", p.partner(0), NONE);
    due("15 BEYOND ahead of NONE", p.partner(64), BEYOND);
    p.lay(0);
    int[] partners = {1, 0, 10};
    int[] under = {9, 8, 2};
    for (int x = 0; x < 3; x++) {
      due("15 partner " + x, p.partner(x), partners[x]);
      due("15 partner " + (8 + x), p.partner(8 + x), under[x]);
    }
    due("15 not of the floor", p.partner(3), NONE);
    due("15 -1", p.partner(-1), BEYOND);
    ParquetLayer g = rows(15);
    g.stone(2, 0, false, 3);
    g.lay(0);
    due("15 glued", g.partner(0), 1);
    due("15 glued", g.partner(1), 0);
    due("15 not glued", g.partner(3), 2);
  }

  private static void promise16() {
    ParquetLayer p = rows(15, 15, 15);
    due("16 none in hand", p.turns(), NONE);
    p.lay(0);
    due("16 all along", p.turns(), 4);
    due("16 3 by 3 less amid", ringTurns(), 0);
    ParquetLayer g = rows(15, 15);
    g.stone(1, 0, false, 0);
    g.lay(0);
    due("16 one is glued", g.turns(), 1);
    ParquetLayer i = rows(3, 3);
    i.stone(2, 0, true, 3);
    i.lay(0);
    due("16 one is inlaid", i.turns(), 0);
    ParquetLayer all = rows(255, 255, 255, 255, 255, 255, 255, 255);
    all.lay(0);
    due("16 all along", all.turns(), 28);
    all.lay(12988815);
    due("16 all across", all.turns(), 28);
  }

  private static int ringTurns() {
    ParquetLayer ring = rows(7, 5, 7);
    ring.lay(0);
    return ring.turns();
  }

  private static void promise17() {
    ParquetLayer p = rows(15, 15, 15);
    due("17 none in hand", p.turn(0), NONE);
    due("17 x 7", p.turn(7), BEYOND);
    due("17 y 7", p.turn(56), BEYOND);
    due("17 x 7 y 6", p.turn(55), BEYOND);
    due("17 -1", p.turn(-1), BEYOND);
    due("17 64", p.turn(64), BEYOND);
    due("17 MIN", p.turn(MIN), BEYOND);
    p.lay(0);
    due("17 turn", p.turn(0), 8);
    due("17 in hand", p.rank(), 8);
    due("17 across now", p.partner(1), 9);
    due("17 back", p.turn(0), 0);
    due("17 no pair", p.turn(1), NONE);
    due("17 not of the floor", p.turn(30), NONE);
    due("17 unchanged", p.rank(), 0);
    ParquetLayer g = rows(3, 3);
    g.stone(1, 8, false, 0);
    g.lay(0);
    due("17 glued", g.turn(0), NONE);
    ParquetLayer far = rows(0, 0, 0, 0, 0, 0, 192, 192);
    far.lay(0);
    due("17 last corner", far.turn(54), 1);
    ParquetLayer amid = rows(63, 63);
    amid.stone(1, 0, false, 0);
    amid.lay(0);
    due("17 beside what is glued", amid.turn(2), amid.rank());
    due("17 what is glued stays", amid.partner(0), 1);
    due("17 turned", amid.partner(2), 10);
  }

  private static void promise18() {
    ParquetLayer p = rows(3, 3);
    due("18 none in hand", p.height(0, 0), NONE);
    p.lay(0);
    int[] along = {0, -1, 0, 1, 2, 1, 0, -1, 0};
    for (int i = 0; i < 9; i++) due("18 along " + i, p.height(i % 3, i / 3), along[i]);
    p.lay(1);
    for (int i = 0; i < 9; i++) due("18 across " + i, p.height(i % 3, i / 3), i == 4 ? -2 : along[i]);
    due("18 x 3", p.height(3, 0), NONE);
    due("18 x -1", p.height(-1, 0), NONE);
    due("18 y -1", p.height(0, -1), NONE);
    due("18 y 9", p.height(0, 9), NONE);
    due("18 x 9", p.height(9, 0), NONE);
    due("18 MAX", p.height(MAX, MIN), NONE);
    due("18 not whole", rows(7, 5, 7).height(0, 0), KIND);
    due("18 KIND ahead of NONE", new ParquetLayer().height(50, 0), KIND);
    // the first point is that of the least y, not of the least x; the field at 1, 0 is LIGHT
    ParquetLayer q = rows(2, 3, 1);
    q.lay(0);
    due("18 first", q.height(1, 0), 0);
    due("18 right of it", q.height(2, 0), 1);
    due("18 under it", q.height(1, 1), -1);
    due("18 left", q.height(0, 1), -2);
    due("18 no point", q.height(0, 0), NONE);
    ParquetLayer last = rows(0, 0, 0, 0, 0, 0, 192, 192);
    last.lay(0);
    due("18 last point", last.height(8, 8), 0);
    due("18 amid", last.height(7, 7), 2);
  }

  private static void promise19() {
    ParquetLayer p = rows(15, 15, 15);
    due("19 lowest", p.extreme(false), 7);
    due("19 highest", p.extreme(true), 2);
    due("19 hand", p.all(2), 0);
    due("19 2 by 2 lowest", rows(3, 3).extreme(false), 1);
    due("19 2 by 2 highest", rows(3, 3).extreme(true), 0);
    due("19 on LIGHT lowest", rows(6, 6).extreme(false), 0);
    due("19 on LIGHT highest", rows(6, 6).extreme(true), 1);
    due("19 none", rows(7, 7, 7).extreme(false), NONE);
    due("19 not whole", rows(7, 5, 7).extreme(false), KIND);
    due("19 no fields", new ParquetLayer().extreme(true), KIND);
    ParquetLayer g = rows(3, 3);
    g.stone(1, 0, false, 0);
    due("19 glued", g.extreme(true), KIND);
  }

  private static void promise20() {
    ParquetLayer p = rows(15, 15, 15);
    due("20 0 10", p.apart(0, 10), 2);
    due("20 10 0", p.apart(10, 0), 2);
    due("20 same", p.apart(3, 3), 0);
    due("20 extremes", p.apart(7, 2), 6);
    due("20 a 11", p.apart(11, 0), BEYOND);
    due("20 b 11", p.apart(0, 11), BEYOND);
    due("20 a -1", p.apart(-1, 0), BEYOND);
    due("20 b MIN", p.apart(0, MIN), BEYOND);
    due("20 not whole", rows(7, 5, 7).apart(0, 1), KIND);
    due("20 KIND ahead of BEYOND", new ParquetLayer().apart(5, 5), KIND);
    due("20 no laying", rows(1).apart(0, 0), BEYOND);
    ParquetLayer all = rows(255, 255, 255, 255, 255, 255, 255, 255);
    due("20 8 by 8", all.apart(0, 12988815), 16);
  }

  private static void promise21() {
    ParquetLayer p = rows(15, 15, 15);
    due("21 0", p.step(0, 10, 0), 0);
    due("21 1", p.step(0, 10, 1), 2);
    due("21 2", p.step(0, 10, 2), NONE);
    due("21 -1", p.step(0, 10, -1), NONE);
    due("21 MAX", p.step(0, 10, MAX), NONE);
    due("21 same", p.step(4, 4, 0), NONE);
    due("21 a", p.step(11, 0, 0), BEYOND);
    due("21 b", p.step(0, -1, 0), BEYOND);
    due("21 BEYOND ahead of NONE", p.step(0, 11, -1), BEYOND);
    due("21 KIND", rows(7, 5, 7).step(0, 1, 0), KIND);
    for (int a = 0; a < 11; a++) {
      for (int b = 0; b < 11; b++) {
        p.lay(a);
        int far = p.apart(a, b);
        for (int i = 0; i < far; i++) {
          int now = p.turn(p.step(a, b, i));
          due("21 nearer", p.apart(now, b), far - i - 1);
        }
        due("21 there", p.rank(), b);
      }
    }
  }

  private static void promise22() {
    ParquetLayer p = rows(15, 15, 15);
    due("22 meet", p.meet(2, 7, false), 7);
    due("22 join", p.meet(2, 7, true), 2);
    due("22 same", p.meet(5, 5, true), 5);
    int low = p.extreme(false);
    int high = p.extreme(true);
    for (int n = 0; n < 11; n++) {
      due("22 lowest", p.meet(n, low, false), low);
      due("22 n", p.meet(low, n, true), n);
      due("22 highest", p.meet(n, high, true), high);
    }
    due("22 a", p.meet(11, 0, true), BEYOND);
    due("22 b", p.meet(0, 11, false), BEYOND);
    due("22 -1", p.meet(-1, 0, false), BEYOND);
    due("22 KIND", rows(5).meet(0, 0, false), KIND);
    // two separate pairs: one turned up, one turned down
    ParquetLayer q = rows(15, 15);
    due("22 neither", q.meet(1, 3, false), 4);
    due("22 both", q.meet(1, 3, true), 0);
  }

  private static void promise23() {
    due("23 none", new ParquetLayer().lack(), 0);
    due("23 one DARK", rows(1).lack(), 1);
    due("23 one LIGHT", rows(2).lack(), 0);
    due("23 3 by 3", rows(7, 7, 7).lack(), 1);
    due("23 as many, but apart", rows(0b1001).lack(), 1);
    due("23 8 by 8", rows(255, 255, 255, 255, 255, 255, 255, 255).lack(), 0);
    due("23 without two corners", rows(127, 255, 255, 255, 255, 255, 255, 254).lack(), 2);
    due("23 a cross", rows(2, 7, 2).lack(), 0);
    due("23 a LIGHT cross", rows(4, 14, 4).lack(), 3);
    ParquetLayer g = rows(15);
    g.stone(1, 1, false, 0);
    due("23 glued does not matter", g.lack(), 0);
    due("23 though there is none", g.count(), 0);
  }

  private static void promise24() {
    ParquetLayer p = rows(7, 7, 7);
    int[] dark = {0, 2, 9, 16, 18};
    for (int f : dark) due("24 " + f, p.lacking(f), 1);
    int[] light = {1, 8, 10, 17};
    for (int f : light) due("24 LIGHT " + f, p.lacking(f), 0);
    due("24 not of the floor", p.lacking(4), 0);
    due("24 -1", p.lacking(-1), BEYOND);
    due("24 64", p.lacking(64), BEYOND);
    due("24 none lacks", rows(15).lacking(0), 0);
    ParquetLayer far = rows(0b110001);
    due("24 the one apart", far.lacking(0), 1);
    due("24 the covered one", far.lacking(4), 0);
    ParquetLayer chain = rows(0b11111);
    due("24 end", chain.lacking(0), 1);
    due("24 amid", chain.lacking(2), 1);
    due("24 other end", chain.lacking(4), 1);
  }

  private static void promise25() {
    ParquetLayer p = new ParquetLayer();
    due("25 8", p.sheet(0, 8, 8), 8);
    due("25 16", p.sheet(1, 16, 16), 16);
    due("25 32", p.sheet(3, 32, 0), 0);
    due("25 of no numbers", p.put(3, 0, 1), BEYOND);
    due("25 no floor of it", p.planks(3), 0);
    due("25 s -1", p.sheet(-1, 8, 1), BEYOND);
    due("25 s 4", p.sheet(4, 8, 1), BEYOND);
    due("25 bits 1", p.sheet(0, 1, 1), BEYOND);
    due("25 bits 64", p.sheet(0, 64, 1), BEYOND);
    due("25 bits -8", p.sheet(0, -8, 1), BEYOND);
    due("25 BEYOND ahead of SIZE", p.sheet(0, 7, -1), BEYOND);
    due("25 n -1", p.sheet(0, 8, -1), SIZE);
    due("25 n MIN", p.sheet(0, 0, MIN), SIZE);
    due("25 n 17", p.sheet(0, 8, 17), BEYOND);
    due("25 n 17 MISSING", p.sheet(0, 0, 17), BEYOND);
    due("25 unchanged", p.put(0, 7, 255), 0);
    due("25 told", p.planks(0), 8);
    due("25 all 0 again", p.sheet(0, 8, 8), 8);
    due("25 none", p.planks(0), 0);
    due("25 MISSING", p.sheet(0, 0, 0), 0);
    due("25 MISSING", p.planks(0), MISSING);
    p.sheet(0, 8, 3);
    due("25 MISSING with n", p.sheet(0, 0, 5), 0);
    due("25 MISSING", p.put(0, 0, 0), MISSING);
  }

  private static void promise26() {
    ParquetLayer p = new ParquetLayer();
    p.sheet(0, 8, 2);
    due("26 put", p.put(0, 1, 3), 0);
    due("26 told", p.planks(0), 2);
    due("26 its row", p.has(8), 1);
    due("26 lowest bits", p.put(0, 0, -1), 0);
    due("26 told", p.planks(0), 10);
    due("26 256 is 0", p.put(0, 0, 256), 0);
    due("26 told", p.planks(0), 2);
    due("26 s -1", p.put(-1, 0, 0), BEYOND);
    due("26 s 4", p.put(4, 0, 0), BEYOND);
    due("26 MISSING ahead of BEYOND", p.put(1, 99, 0), MISSING);
    due("26 i -1", p.put(0, -1, 0), BEYOND);
    due("26 i 2", p.put(0, 2, 0), BEYOND);
    due("26 i MAX", p.put(0, MAX, 0), BEYOND);
  }

  private static void promise27() {
    ParquetLayer p = new ParquetLayer();
    p.sheet(0, 8, 4);
    p.sheet(1, 8, 8);
    p.sheet(2, 16, 8);
    for (int i = 0; i < 4; i++) p.put(0, i, 1 << i);
    due("27 copy", p.copy(0, 1, 1, 5, 3), 3);
    due("27 told", p.planks(1), 3);
    due("27 5", p.has(41), 1);
    due("27 6", p.has(50), 1);
    due("27 7", p.has(59), 1);
    due("27 onto itself up", p.copy(0, 0, 0, 1, 3), 3);
    p.planks(0);
    int[] up = {0, 8, 17, 26};
    for (int f : up) due("27 up " + f, p.has(f), 1);
    due("27 onto itself down", p.copy(0, 1, 0, 0, 3), 3);
    p.planks(0);
    int[] down = {0, 9, 18, 26};
    for (int f : down) due("27 down " + f, p.has(f), 1);
    due("27 none at the end", p.copy(0, 4, 1, 8, 0), 0);
    due("27 beyond the end", p.copy(0, 5, 1, 0, 0), BEYOND);
    due("27 beyond the other's end", p.copy(0, 0, 1, 9, 0), BEYOND);
    due("27 s", p.copy(4, 0, 0, 0, 0), BEYOND);
    due("27 t", p.copy(0, 0, -1, 0, 0), BEYOND);
    due("27 BEYOND ahead of MISSING", p.copy(3, 0, 4, 0, 0), BEYOND);
    due("27 MISSING s", p.copy(3, 0, 0, 0, -1), MISSING);
    due("27 MISSING t", p.copy(0, 0, 3, 0, 99), MISSING);
    due("27 KIND ahead of BEYOND", p.copy(0, -1, 2, 0, 99), KIND);
    due("27 from -1", p.copy(0, -1, 1, 0, 1), BEYOND);
    due("27 to -1", p.copy(0, 0, 1, -1, 1), BEYOND);
    due("27 n -1", p.copy(0, 0, 1, 0, -1), BEYOND);
    due("27 s has not so many", p.copy(0, 2, 1, 0, 3), BEYOND);
    due("27 t has not so many", p.copy(1, 0, 0, 0, 5), BEYOND);
    due("27 MAX", p.copy(0, MAX, 1, MAX, MAX), BEYOND);
    due("27 from MAX", p.copy(0, MAX, 1, 0, 1), BEYOND);
  }

  private static void promise28() {
    ParquetLayer p = rows(0, 0, 0, 0, 0, 0, 0, 255);
    p.sheet(0, 32, 3);
    p.put(0, 0, 0x1FF);
    p.put(0, 2, -256 + 5);
    due("28 planks", p.planks(0), 10);
    due("28 other rows have none", p.has(63), 0);
    due("28 row 2", p.has(18), 1);
    due("28 s -1", p.planks(-1), BEYOND);
    due("28 s 4", p.planks(4), BEYOND);
    due("28 MISSING", p.planks(1), MISSING);
    p.sheet(1, 8, 9);
    due("28 nine", p.planks(1), SIZE);
    p.sheet(1, 8, 8);
    p.put(1, 7, 1);
    due("28 eight", p.planks(1), 1);
    p.planks(0);
    p.stone(1, 0, false, 0);
    due("28 TWICE", p.planks(1), TWICE);
    due("28 unchanged", p.floor(0), 10);
    ParquetLayer e = rows(0, 126, 126, 126, 0);
    e.stone(3, 17, false, 0);
    e.sheet(0, 8, 4);
    for (int y = 0; y < 4; y++) e.put(0, y, 255);
    due("28 KIND", e.planks(0), KIND);
    e.put(0, 2, 252);
    due("28 TWICE ahead of KIND", e.planks(0), TWICE);
    e.put(0, 2, 254);
    due("28 EDGE again", e.planks(0), 31);
    ParquetLayer h = rows(3, 3);
    h.lay(1);
    h.sheet(0, 16, 2);
    h.put(0, 0, 3);
    h.put(0, 1, 3);
    due("28 the same", h.planks(0), 4);
    due("28 hand stays", h.rank(), 1);
    h.put(0, 1, 0);
    h.planks(0);
    due("28 hand goes", h.rank(), NONE);
  }

  private static void promise29() {
    ParquetLayer p = rows(15, 15);
    p.lay(3);
    p.stone(1, 0, false, 0);
    p.lay(1);
    p.loose();
    due("29 loose undone", p.undo(), 3);
    due("29 the STONE is there", p.told(0, 0), 1);
    due("29 hand of then", p.rank(), 1);
    due("29 its stones", p.partner(2), 10);
    due("29 stone undone", p.undo(), 2);
    due("29 no STONE", p.all(0), 0);
    due("29 hand of then", p.rank(), 3);
    due("29 its stones", p.partner(2), 3);
    due("29 turn goes on from there", p.turn(2), 4);
    due("29 row undone", p.undo(), 1);
    due("29 floor", p.floor(0), 4);
    due("29 no hand", p.all(2), 0);
    due("29 row undone", p.undo(), 0);
    due("29 floor", p.floor(0), 0);
    due("29 none", p.undo(), NONE);

    ParquetLayer q = new ParquetLayer();
    for (int i = 1; i <= 25; i++) q.row(0, i);
    due("29 twenty", q.undo(), 19);
    due("29 the one ahead", q.floor(0), 2);
    for (int left = 18; left >= 0; left--) due("29 on", q.undo(), left);
    due("29 no more", q.undo(), NONE);
    due("29 five are forgotten", q.has(0) + 2 * q.has(1) + 4 * q.has(2), 5);

    ParquetLayer same = rows(3);
    same.lay(0);
    same.row(0, 3);
    due("29 such as changed nothing", same.undo(), 1);
    due("29 hand is as it was", same.rank(), 0);
    ParquetLayer turned = rows(3, 3);
    turned.lay(0);
    turned.row(0, 3);
    turned.turn(0);
    turned.undo();
    due("29 hand ahead of it", turned.rank(), 0);
    due("29 its stones", turned.partner(0), 1);
    same.row(0, 256);
    same.stone(0, 1, false, 0);
    due("29 findings are not kept", same.undo(), 0);

    ParquetLayer planks = rows(3);
    planks.sheet(0, 8, 1);
    planks.planks(0);
    due("29 planks", planks.undo(), 1);
    due("29 floor again", planks.floor(0), 2);
    due("29 sheets stay", planks.put(0, 0, 9), 0);
  }

  private static void promise30() {
    ParquetLayer p = rows(255, 255);
    p.stone(0, 0, false, 0);
    p.stone(1, 0, false, 0);
    p.stone(2, 2, false, 5);
    p.stone(3, 4, false, 0);
    due("30 STONES", p.all(0), 4);
    due("30 GLUED", p.all(1), 2);
    due("30 no hand", p.all(2), 0);
    p.lay(0);
    due("30 hand", p.all(2), 1);
    due("30 findings", p.all(3), 0);
    due("30 what 4", p.all(4), BEYOND);
    due("30 what -1", p.all(-1), BEYOND);
    due("30 these too", p.all(3), 2);
    int[] findings = findingOfEach(p);
    for (int i = 0; i < findings.length; i++) due("30 finding " + i, findings[i] < -99999 ? 1 : 0, 1);
    due("30 each act's findings", p.all(3), 2 + findings.length);
    due("30 undo", p.undo(), 6);
    due("30 undo takes none back", p.all(3), 2 + findings.length);
    ParquetLayer fresh = new ParquetLayer();
    fresh.loose();
    fresh.undo();
    due("30 loose and undo", fresh.all(3), 2);
  }

  /** A finding of each act that has one, but for all(), loose() and undo(). */
  private static int[] findingOfEach(ParquetLayer p) {
    p.row(2, 1);
    return new int[] {
      p.row(8, 0), p.has(64), p.floor(9), p.stone(9, 0, false, 0), p.as(9, 0), p.told(9, 0),
      p.with(64, false), p.lay(-1), p.rank(), p.next(), p.draw(1), p.partner(64), p.turns(), p.turn(64),
      p.height(0, 0), p.extreme(true), p.apart(0, 0), p.step(0, 0, 0), p.meet(0, 0, true),
      p.lacking(64), p.sheet(9, 8, 0), p.put(9, 0, 0), p.copy(9, 0, 0, 0, 0), p.planks(9),
    };
  }
}
