import java.math.BigInteger;

/** Promises 9 to 17. */
final class LayingsSentences extends Sentences {
  private static final String COUNT = "COUNT: how many LAYINGS there are.";
  private static final String WITH = "How many LAYINGS have a stone at a PLACE.";
  private static final String DRAW = "A DRAW: that LAYING is IN HAND: its number.";
  private static final String TURN_BEYOND = "BEYOND: x or y of it is not 0 to 6.";
  private static final String TURN_NONE = "NONE: there is none IN HAND, or no such TURN.";
  private static final int[] SEEDS = {0, 1, -1, 2, 5, -7, 12345, 1103515245, MIN, MIN + 1, MAX, MAX - 1};

  LayingsSentences(Due due) { super(due); }

  /** A floor with fields but without a LAYING, and sheets. */
  private static ParquetLayer oddFloor() {
    ParquetLayer p = plain();
    p.row(3, 1);
    return p;
  }

  void promise09_noFields() {
    says(COUNT);
    askedOnly("count()", ParquetLayer::new, ParquetLayer::count, 1);
    ParquetLayer p = floor(15, 15);
    p.row(0, 0);
    p.row(1, 0);
    is("count() when all went", p.count(), 1);
  }

  void promise09_noLaying() {
    says(COUNT);
    is("one FIELD", floor(1).count(), 0);
    is("an odd floor", oddFloor().count(), 0);
    is("two that are not BESIDE", floor(5).count(), 0);
    is("two at row ends", floor(128, 1).count(), 0);
    is("two by a corner", floor(1, 2).count(), 0);
    is("62 without two DARK corners", floor(254, 255, 255, 255, 255, 255, 255, 127).count(), 0);
    ParquetLayer p = floor(15);
    p.stone(1, 1, ALONG, 0);
    is("glued so that none is left", p.count(), 0);
  }

  void promise09_one() {
    says(COUNT);
    is("two FIELDS", floor(3).count(), 1);
    is("two FIELDS, one under the other", floor(1, 1).count(), 1);
    is("the last two", floor(0, 0, 0, 0, 0, 0, 0, 192).count(), 1);
    is("a snake", floor(255, 128, 255, 1, 255, 128, 255, 1).count(), 1);
    ParquetLayer p = floor(3, 3);
    p.stone(1, 0, ALONG, 0);
    p.stone(2, 8, ALONG, 1);
    is("all glued", p.count(), 1);
  }

  void promise09_asManyAsCanBe() {
    says(COUNT);
    askedOnly("count()", Sentences::wholeGrid, ParquetLayer::count, 12988816);
  }

  void promise09_widthsAndHeights() {
    says(COUNT);
    int[][] counts = {
      {0, 1, 0, 1, 0, 1, 0, 1}, {1, 2, 3, 5, 8, 13, 21, 34}, {0, 3, 0, 11, 0, 41, 0, 153},
      {1, 5, 11, 36, 95, 281, 781, 2245}, {0, 8, 0, 95, 0, 1183, 0, 14824},
      {1, 13, 41, 281, 1183, 6728, 31529, 167089}, {0, 21, 0, 781, 0, 31529, 0, 1292697},
      {1, 34, 153, 2245, 14824, 167089, 1292697, 12988816},
    };
    for (int h = 1; h <= 8; h++) {
      for (int w = 1; w <= 8; w++) {
        ParquetLayer p = new ParquetLayer();
        for (int y = 8 - h; y < 8; y++) p.row(y, 255 & 255 << (8 - w));
        is(h + " rows of " + w, p.count(), counts[h - 1][w - 1]);
      }
    }
  }

  void promise10_eachPlaceOfTheGrid() {
    says(WITH);
    ParquetLayer p = wholeGrid();
    for (int f = 0; f < 64; f++) {
      int x = f % 8;
      int y = f / 8;
      int turned = 8 * x + y;
      if (x < 7) is("ALONG at " + f, p.with(f, ALONG), p.with(turned, ACROSS));
      if (x < 7) is("mirrored", p.with(f, ALONG), p.with(8 * y + 6 - x, ALONG));
    }
    is("first", p.with(0, ALONG), 6494408);
    is("last", p.with(62, ALONG), 6494408);
  }

  void promise10_allOrNone() {
    says(WITH);
    askedOnly("of the only LAYING", () -> floor(3), p -> p.with(0, ALONG), 1);
    askedOnly("of no LAYING", LayingsSentences::oddFloor, p -> p.with(0, ALONG), 0);
    ParquetLayer p = floor(15);
    is("in all", p.with(0, ALONG), 1);
    is("in none", p.with(1, ALONG), 0);
  }

  void promise10_gluedPlaces() {
    says(WITH);
    ParquetLayer p = floor(15, 15, 15, 15);
    p.stone(2, 9, ALONG, 5);
    p.stone(0, 0, ALONG, 0);
    is("count()", p.count(), 6);
    is("the INLAID one", p.with(9, ALONG), 6);
    int[] along = {8, 10};
    int[] across = {1, 2, 9, 10};
    for (int f : along) is("over it, ALONG at " + f, p.with(f, ALONG), 0);
    for (int f : across) is("over it, ACROSS at " + f, p.with(f, ACROSS), 0);
    is("of a mere STONE", p.with(0, ALONG), 1);
    is("and the other way", p.with(0, ACROSS), 5);
  }

  void promise10_noSuchField() {
    says("BEYOND: no such FIELD.");
    for (int f : new int[] {-1, 64, MIN, MAX}) {
      refused("ALONG at " + f, Sentences::told, p -> p.with(f, ALONG), BEYOND);
      refused("ACROSS at " + f, Sentences::told, p -> p.with(f, ACROSS), BEYOND);
    }
  }

  void promise10_aFieldIsNone() {
    says("SIZE: a FIELD of it is none, or not of THE FLOOR.");
    for (int i = 0; i < 8; i++) {
      int right = 8 * i + 7;
      int lowest = 56 + i;
      refused("ALONG at " + right, Sentences::wholeGrid, p -> p.with(right, ALONG), SIZE);
      refused("ACROSS at " + lowest, Sentences::wholeGrid, p -> p.with(lowest, ACROSS), SIZE);
    }
  }

  void promise10_aFieldIsNotOfTheFloor() {
    says("SIZE: a FIELD of it is none, or not of THE FLOOR.");
    Made made = () -> floor(0b0110, 0b0110);
    refused("first", made, p -> p.with(0, ALONG), SIZE);
    refused("second", made, p -> p.with(2, ALONG), SIZE);
    refused("under", made, p -> p.with(9, ACROSS), SIZE);
    refused("both", made, p -> p.with(40, ACROSS), SIZE);
    refused("no floor", ParquetLayer::new, p -> p.with(0, ALONG), SIZE);
  }

  void promise11_firstAndLast() {
    says("The LAYING of a number is IN HAND: 1.");
    ParquetLayer p = wholeGrid();
    is("lay(0)", p.lay(0), 1);
    for (int f = 0; f < 64; f++) is("partner(" + f + ")", p.partner(f), f ^ 1);
    is("lay(12988815)", p.lay(12988815), 1);
    for (int f = 0; f < 64; f++) is("partner(" + f + ")", p.partner(f), f ^ 8);
  }

  void promise11_theLayingOfNoFields() {
    says("The LAYING of a number is IN HAND: 1.");
    ParquetLayer p = new ParquetLayer();
    is("lay(0)", p.lay(0), 1);
    is("all(2)", p.all(2), 1);
    is("rank()", p.rank(), 0);
  }

  void promise11_noSuchNumber() {
    says("BEYOND: there is none such.");
    for (int n : new int[] {-1, 11, MIN, MAX}) refused("lay(" + n + ")", Sentences::plain, p -> p.lay(n), BEYOND);
    refused("lay(COUNT) of the grid", Sentences::wholeGrid, p -> p.lay(12988816), BEYOND);
    refused("lay(1) of no FIELDS", ParquetLayer::new, p -> p.lay(1), BEYOND);
    refused("lay(0) of no LAYING", LayingsSentences::oddFloor, p -> p.lay(0), BEYOND);
    refused("lay(COUNT) with GLUED ones", Sentences::told, p -> p.lay(told().count()), BEYOND);
    is("lay(COUNT - 1) with GLUED ones", told().lay(told().count() - 1), 1);
  }

  void promise12_whateverLaidIt() {
    says("The number of THE LAYING IN HAND.");
    askedOnly("rank()", Sentences::plain, ParquetLayer::rank, 3);
    ParquetLayer p = plain();
    is("after next()", p.next(), p.rank());
    is("after draw()", p.draw(9), p.rank());
    p.lay(0);
    is("after turn()", p.turn(0), p.rank());
    p.stone(1, 0, ACROSS, 0);
    p.undo();
    is("after undo()", p.rank(), 8);
  }

  void promise12_noneInHand() {
    says("NONE.");
    refused("at first", ParquetLayer::new, ParquetLayer::rank, NONE);
    refused("after row()", LayingsSentences::oddFloor, ParquetLayer::rank, NONE);
    refused("after stone()", () -> {
      ParquetLayer p = plain();
      p.stone(0, 0, ALONG, 0);
      return p;
    }, ParquetLayer::rank, NONE);
  }

  void promise13_fromTheFirstToTheLast() {
    says("The next LAYING is IN HAND: its number.");
    ParquetLayer p = floor(15, 15, 15);
    ParquetLayer q = floor(15, 15, 15);
    p.lay(0);
    for (int n = 1; n < 11; n++) {
      is("next()", p.next(), n);
      q.lay(n);
      for (int f = 0; f < 20; f++) if (p.has(f) == 1) is("partner", p.partner(f), q.partner(f));
    }
    is("next() of the last", p.next(), NONE);
  }

  void promise13_noneInHand() {
    says("NONE: there is none IN HAND, or it is the last one.");
    refused("at first", ParquetLayer::new, ParquetLayer::next, NONE);
    refused("on a floor", Sentences::withoutHand, ParquetLayer::next, NONE);
    refused("of no LAYING", LayingsSentences::oddFloor, ParquetLayer::next, NONE);
  }

  void promise13_theLastOne() {
    says("NONE: there is none IN HAND, or it is the last one.");
    refused("of eleven", () -> laid(floor(15, 15, 15), 10), ParquetLayer::next, NONE);
    refused("of one", () -> laid(floor(3), 0), ParquetLayer::next, NONE);
    refused("of no FIELDS", () -> laid(new ParquetLayer(), 0), ParquetLayer::next, NONE);
    refused("of the grid", () -> laid(wholeGrid(), 12988815), ParquetLayer::next, NONE);
    is("the one ahead of it", laid(wholeGrid(), 12988814).next(), 12988815);
  }

  /** A DRAW without Java's wrapping: all in numbers without bounds. */
  private static int drawn(int seed, int count) {
    BigInteger all = BigInteger.ONE.shiftLeft(32);
    BigInteger x = BigInteger.valueOf(seed).mod(all);
    int bits = BigInteger.valueOf(count - 1).bitLength();
    while (true) {
      BigInteger number = BigInteger.ZERO;
      for (int i = 0; i < bits; i++) {
        x = x.multiply(BigInteger.valueOf(1103515245)).add(BigInteger.valueOf(12345)).mod(all);
        number = number.shiftLeft(1).add(x.testBit(31) ? BigInteger.ONE : BigInteger.ZERO);
      }
      if (number.intValue() < count) return number.intValue();
    }
  }

  void promise14_allSortsOfSeeds() {
    says(DRAW);
    int[] counts = {2, 3, 8, 11, 34, 36, 12988816};
    int[][] floors = {
      {3, 3}, {7, 7}, {31, 31}, {15, 15, 15}, {255, 255}, {15, 15, 15, 15},
      {255, 255, 255, 255, 255, 255, 255, 255},
    };
    for (int i = 0; i < counts.length; i++) {
      ParquetLayer p = floor(floors[i]);
      int count = counts[i];
      for (int seed : SEEDS) {
        is("draw(" + seed + ") of " + count, p.draw(seed), drawn(seed, count));
        is("rank()", p.rank(), drawn(seed, count));
      }
      for (int seed = 100; seed < 150; seed++) is("draw(" + seed + ") of " + count, p.draw(seed), drawn(seed, count));
    }
  }

  void promise14_ofOne() {
    says(DRAW);
    for (int seed : SEEDS) {
      is("draw(" + seed + ")", floor(3).draw(seed), 0);
      is("draw(" + seed + ") of no FIELDS", new ParquetLayer().draw(seed), 0);
    }
    ParquetLayer p = new ParquetLayer();
    p.draw(1);
    is("all(2)", p.all(2), 1);
  }

  void promise14_aSeedDrawsTheSameAgain() {
    says(DRAW);
    ParquetLayer p = wholeGrid();
    int first = p.draw(77);
    p.draw(78);
    is("draw(77)", p.draw(77), first);
  }

  void promise14_noLaying() {
    says("NONE: there is no LAYING.");
    for (int seed : new int[] {0, MIN, MAX}) {
      refused("draw(" + seed + ")", LayingsSentences::oddFloor, p -> p.draw(seed), NONE);
    }
    refused("glued so that none is left", () -> {
      ParquetLayer p = floor(15);
      p.stone(1, 1, ALONG, 0);
      return p;
    }, p -> p.draw(1), NONE);
  }

  void promise15_bothFieldsOfAStone() {
    says("The FIELD that is covered by the same stone as this one, in THE LAYING IN HAND.");
    Made made = () -> laid(floor(0, 0, 0, 0, 0, 192, 192, 192), 1);
    int[] fields = {46, 47, 54, 55, 62, 63};
    // along above, then two across
    int[] partners = {47, 46, 62, 63, 54, 55};
    for (int i = 0; i < 6; i++) {
      int f = fields[i];
      askedOnly("partner(" + f + ")", made, p -> p.partner(f), partners[i]);
    }
  }

  void promise15_gluedStones() {
    says("The FIELD that is covered by the same stone as this one, in THE LAYING IN HAND.");
    ParquetLayer p = told();
    int[][] pairs = {{0, 1}, {26, 27}};
    for (int n = 0; n < few(p.count()); n += 3) {
      p.lay(n);
      for (int[] pair : pairs) {
        is("first", p.partner(pair[0]), pair[1]);
        is("second", p.partner(pair[1]), pair[0]);
      }
    }
  }

  void promise15_noSuchField() {
    says("BEYOND: no such FIELD.");
    for (int f : new int[] {-1, 64, MIN, MAX}) {
      refused("partner(" + f + ")", Sentences::plain, p -> p.partner(f), BEYOND);
      refused("partner(" + f + ") without a hand", Sentences::withoutHand, p -> p.partner(f), BEYOND);
    }
  }

  void promise15_noneInHand() {
    says("NONE: there is none IN HAND, or it is not of THE FLOOR.");
    refused("of the floor", Sentences::withoutHand, p -> p.partner(0), NONE);
    refused("not of the floor", Sentences::withoutHand, p -> p.partner(63), NONE);
  }

  void promise15_notOfTheFloor() {
    says("NONE: there is none IN HAND, or it is not of THE FLOOR.");
    for (int f : new int[] {4, 7, 24, 63}) refused("partner(" + f + ")", Sentences::plain, p -> p.partner(f), NONE);
    refused("of no FIELDS", () -> laid(new ParquetLayer(), 0), p -> p.partner(0), NONE);
  }

  void promise16_noneAtAll() {
    says("How many TURNS there are.");
    askedOnly("of no FIELDS", () -> laid(new ParquetLayer(), 0), ParquetLayer::turns, 0);
    askedOnly("of a ring", Sentences::ring, ParquetLayer::turns, 0);
    askedOnly("of one stone", () -> laid(floor(3), 0), ParquetLayer::turns, 0);
    askedOnly("of two stones end to end", () -> laid(floor(15), 0), ParquetLayer::turns, 0);
    askedOnly("of stones in bond", () -> laid(floor(15, 30), 0), ParquetLayer::turns, 0);
  }

  void promise16_asManyAsCanBe() {
    says("How many TURNS there are.");
    askedOnly("all ALONG", () -> laid(wholeGrid(), 0), ParquetLayer::turns, 28);
    askedOnly("all ACROSS", () -> laid(wholeGrid(), 12988815), ParquetLayer::turns, 28);
  }

  void promise16_atTheRim() {
    says("How many TURNS there are.");
    is("first corner", laid(floor(3, 3), 0).turns(), 1);
    is("last corner", laid(floor(0, 0, 0, 0, 0, 0, 192, 192), 1).turns(), 1);
    is("across a row's end", laid(floor(128, 129, 1), 0).turns(), 0);
    is("apart by a row's end", laid(floor(192, 195, 3), 0).turns(), 2);
  }

  void promise16_gluedOnesDoNotTurn() {
    says("How many TURNS there are.");
    for (int kind = 1; kind <= 2; kind++) {
      ParquetLayer p = floor(15, 15);
      p.stone(kind, 8, ALONG, colourOf(kind));
      p.lay(0);
      is("one GLUED", p.turns(), 1);
      p.stone(1, 10, ALONG, 0);
      p.lay(0);
      is("two GLUED", p.turns(), 0);
    }
    ParquetLayer p = floor(15, 15);
    p.stone(0, 0, ALONG, 0);
    p.stone(3, 2, ALONG, 0);
    p.lay(0);
    is("a STONE and an EDGE do", p.turns(), 2);
  }

  void promise16_noneInHand() {
    says("NONE: there is no LAYING IN HAND.");
    refused("at first", ParquetLayer::new, ParquetLayer::turns, NONE);
    refused("on a floor", Sentences::withoutHand, ParquetLayer::turns, NONE);
  }

  void promise17_thereAndBack() {
    says("A TURN at a FIELD: the number of THE LAYING IN HAND then.");
    ParquetLayer p = wholeGrid();
    for (int f = 0; f < 55; f++) {
      if (f % 8 == 7) continue;
      boolean turns = f % 2 == 0;
      p.lay(0);
      int then = p.turn(f);
      is("turn(" + f + ") of all ALONG", then < 0 ? then : 1, turns ? 1 : NONE);
      if (!turns) continue;
      is("rank()", p.rank(), then);
      is("partner of its FIELD", p.partner(f), f + 8);
      is("partner right of it", p.partner(f + 1), f + 9);
      is("back", p.turn(f), 0);
    }
  }

  void promise17_xOrYTooLarge() {
    says(TURN_BEYOND);
    for (int f = 0; f < 64; f++) {
      int asked = f;
      if (f % 8 == 7 || f / 8 == 7) {
        refused("turn(" + f + ")", () -> laid(wholeGrid(), 0), p -> p.turn(asked), BEYOND);
      }
    }
  }

  void promise17_noSuchField() {
    says(TURN_BEYOND);
    for (int f : new int[] {-1, -8, -9, 64, 72, MIN, MAX}) {
      refused("turn(" + f + ")", Sentences::plain, p -> p.turn(f), BEYOND);
      refused("turn(" + f + ") without a hand", Sentences::withoutHand, p -> p.turn(f), BEYOND);
    }
  }

  void promise17_noneInHand() {
    says(TURN_NONE);
    for (int f : new int[] {0, 6, 48, 54}) refused("turn(" + f + ")", Sentences::wholeGrid, p -> p.turn(f), NONE);
    refused("of no FIELDS", ParquetLayer::new, p -> p.turn(0), NONE);
  }

  void promise17_noSuchTurn() {
    says(TURN_NONE);
    Made along = () -> laid(floor(15, 15, 15), 0);
    refused("half of two pairs", along, p -> p.turn(1), NONE);
    refused("half off the floor, right", along, p -> p.turn(3), NONE);
    refused("half off the floor, under", along, p -> p.turn(16), NONE);
    refused("off the floor", along, p -> p.turn(54), NONE);
    refused("one of each lies there", () -> laid(floor(7, 7), 0), p -> p.turn(1), NONE);
    refused("of no FIELDS", () -> laid(new ParquetLayer(), 0), p -> p.turn(0), NONE);
    Made across = () -> laid(floor(3, 3, 3, 3), 4);
    refused("two ACROSS, one row too low", across, p -> p.turn(8), NONE);
    is("two ACROSS", across.make().turn(0), 1);
  }

  void promise17_gluedOnes() {
    says(TURN_NONE);
    int[] places = {0, 8};
    for (int place : places) {
      for (int kind = 1; kind <= 2; kind++) {
        int told = kind;
        refused("ALONG at " + place, () -> {
          ParquetLayer p = floor(3, 3);
          p.stone(told, place, ALONG, colourOf(told));
          return laid(p, 0);
        }, p -> p.turn(0), NONE);
        refused("ACROSS at " + place / 8, () -> {
          ParquetLayer p = floor(3, 3);
          p.stone(told, place / 8, ACROSS, colourOf(told));
          return laid(p, 0);
        }, p -> p.turn(0), NONE);
      }
    }
  }
}
