import java.nio.file.Files;
import java.nio.file.Path;
import java.util.HashSet;
import java.util.Set;

/** The sentence on how long an object is used, and the terms. */
final class TermsSentences extends Sentences {
  private static final String IN_ORDER = "Each act tells its findings in the order in which they are asked; "
      + "an act that answers a finding changes nothing.";
  private static final String BESIDE =
      "THE FLOOR is a set of them (none at first); two FIELDS are BESIDE if they have an edge in common.";
  private static final String PLACE = "A PLACE of a stone is a FIELD and whether it lies ACROSS: it covers the FIELD "
      + "and that at x + 1 (ALONG), or at y + 1 (ACROSS); both must be of THE FLOOR.";
  private static final String HAND =
      "THE LAYING IN HAND is one of them, or none (at first; none again when THE FLOOR or a STONE changes).";
  private static final String TURN = "A TURN at a FIELD (x, y 0 to 6) takes two stones of THE LAYING IN HAND that cover "
      + "just the four FIELDS at x, x + 1, y, y + 1, neither GLUED, and lays them the other way.";
  private static final String BITS = "A number is taken of as many BITS as COUNT less 1 holds (none for COUNT 1), "
      + "the first one highest; again and again until it is below COUNT.";
  private static final String WHOLE = "THE FLOOR is WHOLE if it has a FIELD, all its FIELDS hang together BESIDE one "
      + "another, nothing is GLUED, and all places that are not of THE FLOOR (of the 10 by 10 places of the grid and "
      + "one row around) hang together so.";
  private static final String HEIGHT = "HEIGHT of a POINT in a LAYING of a WHOLE FLOOR: that of the first POINT (the "
      + "least y, of these the least x) is 0; from a POINT to the next one along an edge of a FIELD of THE FLOOR that "
      + "no stone covers on both sides, it is 1 more if a DARK place is on the left of who goes there (x grows to the "
      + "right, y grows down; also a place that is not of THE FLOOR counts as DARK or LIGHT by x and y), else 1 less.";

  TermsSentences(Due due) { super(due); }

  private static boolean dark(int x, int y) { return Math.floorMod(x + y, 2) == 0; }

  void terms0_the512thCall() {
    says("An object is used for at most 512 calls after it has been made; what later calls answer is free.");
    ParquetLayer p = new ParquetLayer();
    for (int i = 0; i < 511; i++) p.has(64);
    is("all(3) as the 512th call", p.all(3), 511);
    ParquetLayer q = new ParquetLayer();
    for (int i = 0; i < 511; i++) q.row(i % 8, i % 256);
    is("undo() as the 512th call", q.undo(), 19);
    ParquetLayer r = laid(wholeGrid(), 12988000);
    int asked = 9;
    for (int n = 12988001; asked < 512; n++) {
      is("next()", r.next(), n);
      asked++;
    }
  }

  void terms0_theNumbersOfTheFindings() {
    says("FINDINGS are answers below -99999: -100001 BEYOND, -100002 MISSING, -100003 SIZE, -100004 KIND, "
        + "-100005 FULL, -100006 NONE, -100007 TWICE.");
    is("BEYOND", new ParquetLayer().has(64), -100001);
    is("MISSING", new ParquetLayer().put(0, 0, 0), -100002);
    is("SIZE", new ParquetLayer().sheet(0, 8, -1), -100003);
    is("KIND", new ParquetLayer().extreme(true), -100004);
    is("FULL", full().stone(0, 0, ALONG, 0), -100005);
    is("NONE", new ParquetLayer().rank(), -100006);
    is("TWICE", full().row(0, 0), -100007);
  }

  void terms0_rowAsksBeyondTwiceKind() {
    says(IN_ORDER);
    refused("BEYOND, TWICE", Sentences::told, p -> p.row(0, 256), BEYOND);
    // the EDGE at 18, 19 would be closed in by row 2, which would take a FIELD of a STONE
    for (int order = 0; order < 2; order++) {
      boolean edgeFirst = order == 0;
      Made made = () -> {
        ParquetLayer p = floor(255, 255, 0b11101111, 255, 255);
        if (edgeFirst) p.stone(3, 18, ALONG, 0);
        p.stone(0, 22, ALONG, 0);
        if (!edgeFirst) p.stone(3, 18, ALONG, 0);
        return p;
      };
      refused("KIND alone", made, p -> p.row(2, 255), KIND);
      refused("TWICE, KIND", made, p -> p.row(2, 127), TWICE);
      refused("BEYOND, TWICE, KIND", made, p -> p.row(2, 127 - 256), BEYOND);
    }
  }

  void terms0_stoneAsksBeyondSizeTwiceKindFull() {
    says(IN_ORDER);
    refused("BEYOND, SIZE", Sentences::told, p -> p.stone(0, 63, ALONG, 1), BEYOND);
    refused("BEYOND, TWICE", Sentences::told, p -> p.stone(2, 0, ALONG, 0), BEYOND);
    refused("BEYOND, FULL", Sentences::full, p -> p.stone(4, 0, ALONG, 0), BEYOND);
    refused("SIZE, TWICE", () -> {
      ParquetLayer p = floor(3, 3);
      p.stone(1, 0, ALONG, 0);
      return p;
    }, p -> p.stone(1, 1, ALONG, 0), SIZE);
    refused("SIZE, FULL", Sentences::full, p -> p.stone(0, 63, ALONG, 0), SIZE);
    refused("TWICE, FULL", Sentences::full, p -> p.stone(1, 0, ALONG, 0), TWICE);
    refused("KIND, FULL", Sentences::full, p -> p.stone(3, 18, ALONG, 0), KIND);
    refused("FULL alone", Sentences::full, p -> p.stone(3, 32, ALONG, 0), FULL);
  }

  void terms0_othersAskInOrder() {
    says(IN_ORDER);
    Made laid = () -> laid(floor(15, 15, 15), 0);
    refused("as: BEYOND, KIND", Sentences::told, p -> p.as(0, 4), BEYOND);
    refused("with: BEYOND, SIZE", ParquetLayer::new, p -> p.with(64, ALONG), BEYOND);
    refused("partner: BEYOND, NONE", ParquetLayer::new, p -> p.partner(-1), BEYOND);
    refused("turn: BEYOND, NONE", ParquetLayer::new, p -> p.turn(7), BEYOND);
    refused("height: KIND, NONE", ParquetLayer::new, p -> p.height(-1, -1), KIND);
    refused("extreme: KIND, NONE", () -> floor(5), p -> p.extreme(true), KIND);
    refused("apart: KIND, BEYOND", () -> floor(5), p -> p.apart(-1, -1), KIND);
    refused("step: KIND, BEYOND, NONE", () -> floor(5), p -> p.step(-1, -1, -1), KIND);
    refused("step: BEYOND, NONE", laid, p -> p.step(0, 11, -1), BEYOND);
    refused("meet: KIND, BEYOND", () -> floor(5), p -> p.meet(-1, -1, true), KIND);
    refused("sheet: BEYOND, SIZE", laid, p -> p.sheet(4, 8, -1), BEYOND);
    refused("sheet: bits BEYOND, SIZE", laid, p -> p.sheet(0, 9, -1), BEYOND);
    refused("put: BEYOND, MISSING", laid, p -> p.put(4, 0, 0), BEYOND);
    refused("put: MISSING, BEYOND", laid, p -> p.put(0, -1, 0), MISSING);
    refused("copy: BEYOND, MISSING", laid, p -> p.copy(0, 0, 4, 0, 0), BEYOND);
    refused("copy: MISSING, KIND", Sentences::plain, p -> p.copy(0, 0, 3, 0, 0), MISSING);
    refused("copy: KIND, BEYOND", Sentences::plain, p -> p.copy(0, -1, 1, 0, 0), KIND);
    refused("planks: SIZE, TWICE", Sentences::told, p -> p.planks(1), SIZE);
  }

  void terms1_darkAndLightFields() {
    says("FIELDS are 0 to 63: 8 times y and x (0 to 7 both); DARK if x and y together are even, else LIGHT.");
    for (int y = 0; y < 8; y++) {
      for (int x = 0; x < 8; x++) {
        ParquetLayer p = new ParquetLayer();
        p.row(y, 1 << x);
        is("has", p.has(8 * y + x), 1);
        is("DARK ones of the FIELD at " + x + ", " + y, p.floor(1), dark(x, y) ? 1 : 0);
        is("lack()", p.lack(), dark(x, y) ? 1 : 0);
      }
    }
    refused("one too small", Sentences::wholeGrid, p -> p.has(-1), BEYOND);
    refused("one too large", Sentences::wholeGrid, p -> p.has(64), BEYOND);
  }

  void terms1_besideByAnEdgeOnly() {
    says(BESIDE);
    for (int f = 0; f < 64; f++) {
      for (int g = f + 1; g < 64; g++) {
        ParquetLayer p = new ParquetLayer();
        p.row(f / 8, 1 << f % 8 | (g / 8 == f / 8 ? 1 << g % 8 : 0));
        if (g / 8 != f / 8) p.row(g / 8, 1 << g % 8);
        boolean beside = Math.abs(f % 8 - g % 8) + Math.abs(f / 8 - g / 8) == 1;
        is("pieces of " + f + " and " + g, p.floor(2), beside ? 1 : 2);
        is("count() of " + f + " and " + g, p.count(), beside ? 1 : 0);
      }
    }
  }

  void terms1_bothFieldsOfAPlace() {
    says(PLACE);
    for (int f = 0; f < 64; f++) {
      ParquetLayer p = wholeGrid();
      is("ALONG at " + f, p.stone(0, f, ALONG, 0), f % 8 == 7 ? SIZE : 0);
      is("ACROSS at " + f, p.stone(0, f, ACROSS, 0), f / 8 == 7 ? SIZE : f % 8 == 7 ? 0 : 1);
      is("with ALONG", p.with(f, ALONG) > 0 ? 1 : p.with(f, ALONG), f % 8 == 7 ? SIZE : 1);
      is("with ACROSS", p.with(f, ACROSS) > 0 ? 1 : p.with(f, ACROSS), f / 8 == 7 ? SIZE : 1);
    }
  }

  void terms1_atMost20OfTheKinds() {
    says("STONES 0, 1, .. (at most 20) are told, of a kind: 0 STONE, 1 GLUED under it, 2 INLAID under GLUED, "
        + "3 EDGE under STONE; each has a PLACE.");
    ParquetLayer p = full();
    is("the twentieth", p.told(19, 0), 0);
    refused("the 21st", Sentences::full, q -> q.stone(0, 0, ALONG, 0), FULL);
    int[][] under = {{1, 0, 0, 0}, {1, 1, 0, 0}, {1, 1, 1, 0}, {1, 0, 0, 1}};
    for (int s = 0; s < 4; s++) {
      for (int kind = 0; kind < 4; kind++) is("as(" + s + ", " + kind + ")", told().as(s, kind), under[s][kind] == 1 ? s : KIND);
    }
  }

  void terms1_gluedOnesAreInEachLaying() {
    says("GLUED ones, INLAID too, are in each LAYING; no two of these cover a FIELD both.");
    ParquetLayer p = floor(15, 15, 15, 15);
    p.stone(1, 0, ALONG, 0);
    p.stone(2, 19, ACROSS, 9);
    int total = few(p.count());
    holds("there are some", total > 1);
    for (int n = 0; n < total; n++) {
      p.lay(n);
      is("GLUED in " + n, p.told(0, 4), 1);
      is("INLAID in " + n, p.told(1, 4), 1);
    }
    is("over the GLUED one", p.stone(2, 1, ACROSS, 9), TWICE);
    is("over the INLAID one", p.stone(1, 18, ALONG, 0), TWICE);
  }

  void terms1_coloursFrom1To99() {
    says("INLAID ones have a COLOUR (1 to 99; others 0).");
    for (int colour = -1; colour <= 101; colour++) {
      boolean fits = colour >= 1 && colour <= 99;
      ParquetLayer p = floor(3);
      is("INLAID of " + colour, p.stone(2, 0, ALONG, colour), fits ? 0 : BEYOND);
      if (fits) is("told(0, 3)", p.told(0, 3), colour);
      for (int kind : new int[] {0, 1, 3}) {
        ParquetLayer q = floor(3);
        is("kind " + kind + " of " + colour, q.stone(kind, 0, ALONG, colour), colour == 0 ? 0 : BEYOND);
      }
    }
  }

  void terms1_edgesTouchWhatIsNotOfTheFloor() {
    says("An EDGE must touch, by an edge of one of its FIELDS, a place that is not of THE FLOOR (also beyond the grid).");
    for (int f = 0; f < 64; f++) {
      int x = f % 8;
      int y = f / 8;
      boolean rim = x == 0 || y == 0 || y == 7;
      if (x < 7) is("ALONG at " + f, wholeGrid().stone(3, f, ALONG, 0), rim || x == 6 ? 0 : KIND);
      rim = x == 0 || x == 7 || y == 0;
      if (y < 7) is("ACROSS at " + f, wholeGrid().stone(3, f, ACROSS, 0), rim || y == 6 ? 0 : KIND);
    }
    is("a hole beside", floor(255, 255, 247, 255, 255).stone(3, 17, ALONG, 0), 0);
    is("a hole at a corner", floor(255, 255, 247, 255, 255).stone(3, 9, ALONG, 0), KIND);
  }

  void terms2_eachFieldByJustOneStone() {
    says("A LAYING covers each FIELD of THE FLOOR by just one stone, no two on one PLACE, with all that are GLUED.");
    int[][] floors = {{15, 15, 15}, {63, 63}, {7, 5, 7}, {6, 15, 15, 6}};
    for (int[] rows : floors) {
      ParquetLayer p = floor(rows);
      int total = few(p.count());
      Set<String> seen = new HashSet<>();
      for (int n = 0; n < total; n++) {
        p = laid(floor(rows), n);
        StringBuilder partners = new StringBuilder();
        for (int f = 0; f < 32; f++) {
          if (p.has(f) == 0) continue;
          int other = p.partner(f);
          is("partner of partner", p.partner(other), f);
          int far = Math.abs(other % 8 - f % 8) + Math.abs(other / 8 - f / 8);
          is("BESIDE", far, 1);
          partners.append(other).append(' ');
        }
        holds("another one", seen.add(partners.toString()));
      }
    }
  }

  void terms2_theFloorOfNoFields() {
    says("(THE FLOOR of no FIELDS has one, without stones.)");
    ParquetLayer p = new ParquetLayer();
    is("count()", p.count(), 1);
    is("lay(0)", p.lay(0), 1);
    is("lay(1)", p.lay(1), BEYOND);
    is("rank()", p.rank(), 0);
    is("turns()", p.turns(), 0);
    is("turn(0)", p.turn(0), NONE);
    is("partner(0)", p.partner(0), NONE);
    is("next()", p.next(), NONE);
    is("draw(7)", p.draw(7), 0);
    is("it goes with the floor", p.row(0, 3), 2);
    is("all(2)", p.all(2), 0);
    is("and comes again", p.undo(), 0);
    is("rank()", p.rank(), 0);
  }

  void terms2_alongIsAhead() {
    says("LAYINGS are numbered from 0 on, in ORDER: where two differ first, FIELD by FIELD, by what lies there from "
        + "that FIELD on, that with the stone ALONG is ahead.");
    int[][] floors = {{15, 15, 15}, {15, 15, 15, 15}, {255, 255}, {3, 3, 3, 3, 3, 3, 3, 3}};
    for (int[] rows : floors) {
      int total = few(floor(rows).count());
      for (int n = 1; n < total; n++) {
        ParquetLayer ahead = laid(floor(rows), n - 1);
        ParquetLayer behind = laid(floor(rows), n);
        int f = 0;
        while (f < 63 && (ahead.has(f) == 0 || ahead.partner(f) == behind.partner(f))) f++;
        is("ahead", ahead.partner(f), f + 1);
        is("behind", behind.partner(f), f + 8);
      }
    }
  }

  void terms2_gluedOnesDoNotChangeTheOrder() {
    says("LAYINGS are numbered from 0 on, in ORDER: where two differ first, FIELD by FIELD, by what lies there from "
        + "that FIELD on, that with the stone ALONG is ahead.");
    ParquetLayer all = floor(15, 15, 15, 15);
    ParquetLayer some = floor(15, 15, 15, 15);
    some.stone(1, 10, ACROSS, 0);
    int number = 0;
    for (int n = 0; n < 36; n++) {
      all.lay(n);
      if (all.partner(10) != 18) continue;
      some.lay(number);
      is("partner(0)", some.partner(0), all.partner(0));
      is("partner(24)", some.partner(24), all.partner(24));
      is("partner(27)", some.partner(27), all.partner(27));
      number++;
    }
    is("count()", some.count(), number);
  }

  void terms2_theHandGoesWithFloorAndStones() {
    says(HAND);
    is("at first", new ParquetLayer().all(2), 0);
    Act[] changes = {
      p -> p.row(0, 0), p -> p.row(7, 255), p -> p.planks(0), p -> p.stone(0, 0, ALONG, 0), p -> p.stone(1, 0, ALONG, 0),
      p -> p.stone(2, 0, ALONG, 5), p -> p.stone(3, 0, ALONG, 0),
    };
    for (Act change : changes) {
      ParquetLayer p = plain();
      is("all(2)", p.all(2), 1);
      holds("no finding", change.on(p) >= 0);
      is("all(2) then", p.all(2), 0);
    }
    for (int stones = 1; stones <= 5; stones++) {
      ParquetLayer p = told();
      for (int i = 0; i < stones; i++) {
        p.lay(0);
        p.loose();
      }
      is("all(2) after loose()", p.all(2), 0);
    }
  }

  void terms2_theHandStaysOtherwise() {
    says(HAND);
    Act[] acts = {
      p -> p.row(0, 15), p -> p.sheet(0, 8, 1), p -> p.put(0, 0, 9), p -> p.copy(0, 0, 0, 1, 2), p -> p.extreme(true),
      p -> p.apart(0, 1), p -> p.step(0, 10, 0), p -> p.meet(1, 2, true), p -> p.lack(), p -> p.count(),
      p -> p.with(0, ALONG),
    };
    for (Act act : acts) {
      ParquetLayer p = plain();
      holds("no finding", act.on(p) >= 0);
      is("rank()", p.rank(), 3);
    }
  }

  void terms2_turnsFrom0To6() {
    says(TURN);
    for (int f = 0; f < 64; f++) {
      int x = f % 8;
      int y = f / 8;
      ParquetLayer p = laid(floor(), 0);
      if (x == 7 || y == 7) {
        is("turn(" + f + ")", laid(wholeGrid(), 0).turn(f), BEYOND);
        continue;
      }
      p.row(y, 3 << x);
      p.row(y + 1, 3 << x);
      p.lay(0);
      is("turn(" + f + ") of two ALONG", p.turn(f), 1);
      is("partner", p.partner(f), f + 8);
      is("turn(" + f + ") of two ACROSS", p.turn(f), 0);
      is("partner", p.partner(f), f + 1);
      is("turns()", p.turns(), 1);
    }
  }

  void terms2_justTheFourFields() {
    says(TURN);
    // stones in bond: the four FIELDS at 1 are covered by four stones, those at 0 by three
    ParquetLayer p = laid(floor(0b111111, 0b1111110), 0);
    for (int f = 0; f < 7; f++) is("turn(" + f + ")", p.turn(f), NONE);
    is("turns()", p.turns(), 0);
  }

  void terms2_seedsWrapAround() {
    says("A DRAW by a seed: x is the seed at first; to take a BIT: x becomes 1103515245 x + 12345 (an int, wrapping), "
        + "the BIT is its highest one.");
    ParquetLayer p = floor(3, 3);
    int[] seeds = {0, 1, 2, 3, -1, -2, -3, MIN, MIN + 1, MAX, MAX - 1, 1 << 30, 1 << 31};
    for (int seed : seeds) {
      long x = Math.floorMod(1103515245L * seed + 12345L, 1L << 32);
      is("draw(" + seed + ")", p.draw(seed), (int) (x >> 31));
    }
  }

  void terms2_asManyBitsAsCountLess1Holds() {
    says(BITS);
    // COUNT 1, 2, 3, 5, 8 (3 BITS, all numbers fit), 13, 21, 34 (6 BITS)
    int[] counts = {1, 2, 3, 5, 8, 13, 21, 34};
    int[] bits = {0, 1, 2, 3, 3, 4, 5, 6};
    for (int w = 1; w <= 8; w++) {
      ParquetLayer p = floor((1 << w) - 1, (1 << w) - 1);
      is("count()", p.count(), counts[w - 1]);
      for (int seed = -40; seed < 40; seed++) {
        int x = seed;
        int number = counts[w - 1];
        while (number >= counts[w - 1]) {
          number = 0;
          for (int i = bits[w - 1] - 1; i >= 0; i--) {
            x = 1103515245 * x + 12345;
            if (x < 0) number += 1 << i;
          }
        }
        is("draw(" + seed + ")", p.draw(seed), number);
      }
    }
  }

  void terms3_wholeOrNot() {
    says(WHOLE);
    is("no FIELD", new ParquetLayer().floor(3), 0);
    for (int f = 0; f < 64; f++) {
      ParquetLayer p = new ParquetLayer();
      p.row(f / 8, 1 << f % 8);
      is("one FIELD", p.floor(3), 1);
    }
    is("the grid", wholeGrid().floor(3), 1);
    is("two pieces", floor(5).floor(3), 0);
    is("two pieces by a corner", floor(1, 2).floor(3), 0);
    is("two pieces at row ends", floor(128, 1).floor(3), 0);
  }

  void terms3_aHoleAnywhere() {
    says(WHOLE);
    for (int f = 0; f < 64; f++) {
      ParquetLayer p = wholeGrid();
      p.row(f / 8, 255 & ~(1 << f % 8));
      boolean rim = f % 8 == 0 || f % 8 == 7 || f / 8 == 0 || f / 8 == 7;
      is("without " + f, p.floor(3), rim ? 1 : 0);
    }
  }

  void terms3_aHoleThatIsOpenByACornerOnly() {
    says(WHOLE);
    is("at the corner of the grid", floor(254, 253, 255).floor(3), 0);
    is("at the other corner", floor(0, 0, 0, 0, 0, 255, 191, 127).floor(3), 0);
    is("open by an edge", floor(253, 253, 255).floor(3), 1);
    is("the row around the grid counts", floor(24, 24, 255, 255, 24, 24, 24, 24).floor(3), 1);
  }

  void terms3_nothingIsGlued() {
    says(WHOLE);
    int[] want = {1, 0, 0, 1};
    for (int kind = 0; kind < 4; kind++) {
      ParquetLayer p = floor(15, 15);
      p.stone(kind, 0, ALONG, colourOf(kind));
      is("with one of kind " + kind, p.floor(3), want[kind]);
      p.loose();
      is("without", p.floor(3), 1);
    }
  }

  void terms3_pointsFrom0To8() {
    says("POINTS are corners (x, y 0 to 8 both) of FIELDS of THE FLOOR (a FIELD has the corners x, x + 1 by y, y + 1).");
    int[] firsts = {0, 6, 27, 48, 54};
    for (int first : firsts) {
      ParquetLayer p = new ParquetLayer();
      int left = first % 8;
      int top = first / 8;
      p.row(top, 3 << left);
      p.row(top + 1, 3 << left);
      p.lay(0);
      for (int y = -1; y <= 9; y++) {
        for (int x = -1; x <= 9; x++) {
          boolean point = x >= left && x <= left + 2 && y >= top && y <= top + 2;
          is("height(" + x + ", " + y + ")", p.height(x, y) == NONE ? 0 : 1, point ? 1 : 0);
        }
      }
    }
  }

  void terms3_heightsByTheLeftHand() {
    says(HEIGHT);
    // from each POINT right and down, along edges that no stone covers on both sides
    int[][] floors = {{15, 15, 15}, {0, 0, 0, 0, 240, 240, 240, 240}, {6, 15, 15, 6}, {0, 28, 31, 31, 7}};
    for (int[] rows : floors) {
      ParquetLayer p = floor(rows);
      int total = few(p.count());
      holds("there are some", total > 1);
      for (int n = 0; n < total; n++) edges(laid(floor(rows), n));
    }
  }

  void terms3_heightsOfFloorsThatTurnBackUp() {
    says(HEIGHT);
    int[][] floors = {
      {0b110011, 0b110011, 0b111111}, {0b0011, 0b110011, 0b110011, 0b111111, 0b111111},
      {0b11000000, 0b11000011, 0b11011011, 0b11111111, 0b11111111}, {0b000011, 0b110011, 0b111111, 0b011110},
    };
    for (int[] rows : floors) {
      int total = few(floor(rows).count());
      holds("there are some", total > 0);
      is("WHOLE", floor(rows).floor(3), 1);
      for (int n = 0; n < total; n++) edges(laid(floor(rows), n));
    }
  }

  private void edges(ParquetLayer p) {
    int[] heights = new int[81];
    for (int i = 0; i < 81; i++) heights[i] = p.height(i % 9, i / 9);
    boolean first = true;
    for (int i = 0; i < 81; i++) {
      int x = i % 9;
      int y = i / 9;
      if (heights[i] == NONE) continue;
      if (first) is("the first POINT", heights[i], 0);
      first = false;
      if (x < 8 && free(p, x, y - 1, x, y)) {
        is("right of " + x + ", " + y, heights[i + 1] - heights[i], dark(x, y - 1) ? 1 : -1);
      }
      if (y < 8 && free(p, x, y, x - 1, y)) {
        is("under " + x + ", " + y, heights[i + 9] - heights[i], dark(x, y) ? 1 : -1);
      }
    }
  }

  private static boolean of(ParquetLayer p, int x, int y) {
    return x >= 0 && x < 8 && y >= 0 && y < 8 && p.has(8 * y + x) == 1;
  }

  /** Whether one of two places is of the floor and no stone covers both. */
  private static boolean free(ParquetLayer p, int x, int y, int u, int v) {
    if (!of(p, x, y)) return of(p, u, v);
    return !of(p, u, v) || p.partner(8 * y + x) != 8 * v + u;
  }

  void terms3_placesBeyondTheGridHaveColours() {
    says(HEIGHT);
    ParquetLayer p = laid(wholeGrid(), 0);
    for (int i = 0; i <= 8; i++) {
      is("along the upper rim", p.height(i, 0), i % 2 == 0 ? 0 : -1);
      is("along the lower rim", p.height(i, 8), i % 2 == 0 ? 0 : -1);
      is("along the left rim", p.height(0, i), i % 2 == 0 ? 0 : 1);
      is("along the right rim", p.height(8, i), i % 2 == 0 ? 0 : 1);
    }
  }

  void terms3_aQuarterOfTheHeights() {
    says("APART of two LAYINGS: the fewest TURNS from one to the other: a quarter of the sum of how far their HEIGHTS differ.");
    ParquetLayer p = floor(15, 15, 15);
    int[][] heights = new int[11][];
    for (int n = 0; n < 11; n++) heights[n] = heightsOf(floor(15, 15, 15), n);
    for (int a = 0; a < 11; a++) {
      for (int b = 0; b < 11; b++) {
        int sum = 0;
        for (int i = 0; i < 81; i++) sum += Math.abs(heights[a][i] - heights[b][i]);
        is("apart(" + a + ", " + b + ")", 4 * p.apart(a, b), sum);
      }
    }
  }

  private static int[] heightsOf(ParquetLayer p, int number) {
    p.lay(number);
    int[] heights = new int[81];
    for (int i = 0; i < 81; i++) heights[i] = p.height(i % 9, i / 9);
    return heights;
  }

  void terms3_theLeastFieldThatHelps() {
    says("THE WAY from one to another: step by step the TURN at the least FIELD of those that make it less APART.");
    ways(11, 15, 15, 15);
    ways(36, 15, 15, 15, 15);
  }

  private void ways(int total, int... rows) {
    for (int a = 0; a < total; a++) {
      for (int b = 0; b < total; b++) {
        int now = a;
        int far = floor(rows).apart(a, b);
        for (int i = 0; i < far && i < 10; i++) {
          int field = leastThatHelps(floor(rows), now, b);
          is("step(" + a + ", " + b + ", " + i + ")", floor(rows).step(a, b, i), field);
          now = laid(floor(rows), now).turn(field);
        }
        is("there", now, b);
      }
    }
  }

  private static int leastThatHelps(ParquetLayer p, int now, int b) {
    int far = p.apart(now, b);
    for (int f = 0; f < 55; f++) {
      p.lay(now);
      int then = p.turn(f);
      if (then >= 0 && p.apart(then, b) < far) return f;
    }
    return -1;
  }

  void terms3_leastAndGreatestOfAll() {
    says("THE LOWEST LAYING has at each POINT the least HEIGHT of all, THE HIGHEST the greatest.");
    int[][] floors = {{15, 15, 15}, {15, 15, 15, 15}, {0, 24, 60, 60, 24}};
    for (int[] rows : floors) {
      int[] low = heightsOf(floor(rows), floor(rows).extreme(false));
      int[] high = heightsOf(floor(rows), floor(rows).extreme(true));
      int total = few(floor(rows).count());
      for (int n = 0; n < total; n++) {
        int[] heights = heightsOf(floor(rows), n);
        for (int i = 0; i < 81; i++) holds("between", low[i] <= heights[i] && heights[i] <= high[i]);
      }
    }
  }

  void terms3_lesserAndGreaterOfBoth() {
    says("MEET and JOIN of two: the LAYINGS that have at each POINT the lesser, the greater of both HEIGHTS.");
    ParquetLayer p = floor(15, 15, 15);
    int[][] heights = new int[11][];
    for (int n = 0; n < 11; n++) heights[n] = heightsOf(floor(15, 15, 15), n);
    for (int a = 0; a < 11; a++) {
      for (int b = 0; b < 11; b++) {
        int[] meet = heights[p.meet(a, b, false)];
        int[] join = heights[p.meet(a, b, true)];
        for (int i = 0; i < 81; i++) {
          is("MEET of " + a + ", " + b, meet[i], Math.min(heights[a][i], heights[b][i]));
          is("JOIN of " + a + ", " + b, join[i], Math.max(heights[a][i], heights[b][i]));
        }
      }
    }
  }

  void terms4_howManyAtLeast() {
    says("LACK: how many DARK FIELDS of THE FLOOR at least are left by stones that cover two FIELDS BESIDE, none twice "
        + "(glued or not does not matter).");
    is("none of none", new ParquetLayer().lack(), 0);
    is("all 32", floor(85, 170, 85, 170, 85, 170, 85, 170).lack(), 32);
    is("LIGHT ones left do not count", floor(4, 14, 4).lack(), 3);
    is("four LIGHT ones left", floor(2, 7, 2).lack(), 0);
    for (int corner : new int[] {0, 63}) {
      ParquetLayer p = wholeGrid();
      p.row(corner / 8, 255 & ~(1 << corner % 8));
      is("without a DARK corner", p.lack(), 0);
    }
    for (int corner : new int[] {7, 56}) {
      ParquetLayer p = wholeGrid();
      p.row(corner / 8, 255 & ~(1 << corner % 8));
      is("without a LIGHT corner", p.lack(), 1);
    }
    for (int kind = 0; kind < 4; kind++) {
      ParquetLayer p = floor(15);
      p.stone(kind, 1, ALONG, colourOf(kind));
      is("with one of kind " + kind, p.lack(), 0);
    }
  }

  void terms4_aCoveringThatMustBeTakenBack() {
    says("LACK: how many DARK FIELDS of THE FLOOR at least are left by stones that cover two FIELDS BESIDE, none twice "
        + "(glued or not does not matter).");
    // the last DARK FIELD finds its only LIGHT one taken, once or along a whole chain
    is("one stone", floor(0, 7, 1).lack(), 0);
    is("three stones", floor(254, 2).lack(), 0);
    is("three stones, and none behind them", floor(126, 2).lack(), 1);
    is("a snake", floor(254, 129, 255, 1, 255, 128, 255).lack(), 0);
    ParquetLayer p = floor(126, 2);
    for (int f = 0; f < 16; f++) is("lacking(" + f + ")", p.lacking(f), f == 2 || f == 4 || f == 6 || f == 9 ? 1 : 0);
  }

  void terms4_leftBySome() {
    says("LACKING: a DARK FIELD that is left by some such covering that leaves so few.");
    ParquetLayer five = floor(0b11111);
    ParquetLayer four = floor(0b1111);
    ParquetLayer lone = floor(0b1100001);
    for (int x = 0; x < 8; x++) {
      is("any DARK one of five: " + x, five.lacking(x), x <= 4 && x % 2 == 0 ? 1 : 0);
      is("none of four: " + x, four.lacking(x), 0);
      is("the lone one alone: " + x, lone.lacking(x), x == 0 ? 1 : 0);
    }
  }

  void terms5_upTo16Numbers() {
    says("SHEETS 0 to 3 are rows of up to 16 numbers of 8, 16 or 32 bits, or MISSING (all, at first).");
    for (int s = -1; s <= 4; s++) {
      for (int bits : new int[] {8, 16, 32}) {
        ParquetLayer p = new ParquetLayer();
        is("MISSING at first", p.planks(s), s < 0 || s > 3 ? BEYOND : MISSING);
        is("16 numbers", p.sheet(s, bits, 16), s < 0 || s > 3 ? BEYOND : 16);
        is("17 numbers", p.sheet(s, bits, 17), BEYOND);
        is("the last one", p.put(s, 15, 1), s < 0 || s > 3 ? BEYOND : 0);
        is("no other", p.put(s, 16, 1), BEYOND);
      }
    }
  }

  private void ahead(String words, String... calls) throws Exception {
    String source = Files.readString(Path.of("src/main/java/ParquetLayer.java"));
    int from = source.indexOf("// ---- " + words + "\n");
    holds(words + " stands there", from >= 0);
    int to = source.indexOf("// ---- ", from + 1);
    for (String call : calls) {
      int at = source.indexOf("public int " + call + "(");
      holds(call + " stands under " + words, at > from && at < to);
    }
  }

  void terms5_theFace() throws Exception {
    says("Ahead of the calls `row`, `has`, `floor` the interface says: ---- the floor.");
    ahead("the floor", "row", "has", "floor");
    says("Ahead of the calls `stone`, `loose`, `as`, `told` the interface says: ---- stones.");
    ahead("stones", "stone", "loose", "as", "told");
    says("Ahead of the calls `count`, `with`, `lay`, `rank`, `next`, `draw`, `partner`, `turns`, `turn` the interface says: "
        + "---- layings.");
    ahead("layings", "count", "with", "lay", "rank", "next", "draw", "partner", "turns", "turn");
    says("Ahead of the calls `height`, `extreme`, `apart`, `step`, `meet` the interface says: ---- heights.");
    ahead("heights", "height", "extreme", "apart", "step", "meet");
    says("Ahead of the calls `lack`, `lacking` the interface says: ---- why there is none.");
    ahead("why there is none", "lack", "lacking");
    says("Ahead of the calls `sheet`, `put`, `copy`, `planks`, `undo`, `all` the interface says: ---- sheets, the whole.");
    ahead("sheets, the whole", "sheet", "put", "copy", "planks", "undo", "all");
  }
}
