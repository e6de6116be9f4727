/** Promises 1 to 4. */
final class FloorSentences extends Sentences {
  private static final String ROW_BEYOND = "BEYOND: no such row, or bits are not 0 to 255.";
  private static final String ROW_TWICE = "TWICE: a STONE would have a FIELD that is not of THE FLOOR.";
  private static final String ROW_KIND = "KIND: an EDGE would touch no such place.";
  private static final String WHATS =
      "0 how many FIELDS, 1 DARK ones, 2 pieces that hang together, 3 whether it is WHOLE (1, 0).";

  FloorSentences(Due due) { super(due); }

  void promise01_aNewObjectIsEmpty() {
    says("No FIELDS, no STONES, no LAYING IN HAND; sheets MISSING.");
    ParquetLayer p = new ParquetLayer();
    for (int f = 0; f < 64; f++) is("has(" + f + ")", p.has(f), 0);
    for (int what = 0; what < 4; what++) {
      is("floor(" + what + ")", p.floor(what), 0);
      is("all(" + what + ")", p.all(what), 0);
    }
    is("rank()", p.rank(), NONE);
    is("loose()", p.loose(), NONE);
    is("told(0, 0)", p.told(0, 0), BEYOND);
    for (int s = 0; s < 4; s++) {
      is("put", p.put(s, 0, 0), MISSING);
      is("planks", p.planks(s), MISSING);
      is("copy", p.copy(s, 0, s, 0, 0), MISSING);
    }
  }

  void promise01_aNewObjectHasNothingToUndo() {
    says("No FIELDS, no STONES, no LAYING IN HAND; sheets MISSING.");
    refused("undo()", ParquetLayer::new, ParquetLayer::undo, NONE);
  }

  void promise01_objectsShareNothing() {
    says("No FIELDS, no STONES, no LAYING IN HAND; sheets MISSING.");
    told();
    ParquetLayer p = new ParquetLayer();
    told();
    is("floor(0)", p.floor(0), 0);
    is("all(0)", p.all(0), 0);
    is("all(2)", p.all(2), 0);
    is("put(0, 0, 0)", p.put(0, 0, 0), MISSING);
  }

  void promise02_bitXOfRowY() {
    says("THE FLOOR has in row y the FIELDS whose bits are 1 (bit x): how many it has in all.");
    for (int f = 0; f < 64; f++) {
      ParquetLayer p = new ParquetLayer();
      is("row", p.row(f / 8, 1 << f % 8), 1);
      for (int g = 0; g < 64; g++) is("has(" + g + ")", p.has(g), g == f ? 1 : 0);
    }
  }

  void promise02_allRowsFullAndEmpty() {
    says("THE FLOOR has in row y the FIELDS whose bits are 1 (bit x): how many it has in all.");
    ParquetLayer p = new ParquetLayer();
    is("row(0, 0) of none", p.row(0, 0), 0);
    for (int y = 0; y < 8; y++) is("row(" + y + ", 255)", p.row(y, 255), 8 * y + 8);
    for (int y = 7; y >= 0; y--) is("row(" + y + ", 0)", p.row(y, 0), 8 * y);
  }

  void promise02_aRowIsToldAnew() {
    says("THE FLOOR has in row y the FIELDS whose bits are 1 (bit x): how many it has in all.");
    ParquetLayer p = floor(240, 129);
    is("row(0, 3)", p.row(0, 3), 4);
    is("has(0)", p.has(0), 1);
    is("has(4)", p.has(4), 0);
    is("has(8)", p.has(8), 1);
  }

  void promise02_noSuchRow() {
    says(ROW_BEYOND);
    for (int y : new int[] {-1, 8, 64, MIN, MAX}) refused("row(" + y + ", 1)", Sentences::plain, p -> p.row(y, 1), BEYOND);
  }

  void promise02_bitsTooSmallOrTooLarge() {
    says(ROW_BEYOND);
    for (int bits : new int[] {-1, 256, 511, MIN, MAX}) {
      refused("row(0, " + bits + ")", Sentences::plain, p -> p.row(0, bits), BEYOND);
      refused("row(7, " + bits + ")", Sentences::plain, p -> p.row(7, bits), BEYOND);
    }
  }

  void promise02_aStoneWouldLoseAField() {
    says(ROW_TWICE);
    for (int kind = 0; kind < 4; kind++) {
      int told = kind;
      int colour = colourOf(kind);
      Made along = () -> {
        ParquetLayer p = floor(15, 15);
        p.stone(told, 1, ALONG, colour);
        return p;
      };
      Made across = () -> {
        ParquetLayer p = floor(15, 15);
        p.stone(told, 1, ACROSS, colour);
        return p;
      };
      refused("along, first", along, p -> p.row(0, 13), TWICE);
      refused("along, second", along, p -> p.row(0, 11), TWICE);
      refused("along, both", along, p -> p.row(0, 0), TWICE);
      refused("across, first", across, p -> p.row(0, 13), TWICE);
      refused("across, second", across, p -> p.row(1, 13), TWICE);
      is("along, neither", along.make().row(0, 6), 6);
      is("along, the row under", along.make().row(1, 0), 4);
      is("across, neither", across.make().row(1, 2), 5);
    }
  }

  void promise02_anyStoneOfTwenty() {
    says(ROW_TWICE);
    refused("the first", Sentences::full, p -> p.row(0, 254), TWICE);
    refused("the last", Sentences::full, p -> p.row(3, 247), TWICE);
    is("none has a FIELD there", full().row(4, 0), 32);
  }

  void promise02_anEdgeWouldTouchNoSuchPlace() {
    says(ROW_KIND);
    // around the stone at 18 and 19: 10, 11 above, 17 and 20 beside, 26, 27 under
    int[] rows = {0, 255, 255, 255};
    int[] holes = {10, 11, 17, 20, 26, 27};
    for (int hole : holes) {
      Made made = () -> {
        ParquetLayer p = new ParquetLayer();
        for (int y = 0; y < 4; y++) p.row(y, rows[y] & ~(y == hole / 8 ? 1 << hole % 8 : 0));
        p.stone(3, 18, ALONG, 0);
        return p;
      };
      is("the EDGE is told", made.make().all(0), 1);
      refused("row over " + hole, made, p -> p.row(hole / 8, 255), KIND);
      ParquetLayer opened = made.make();
      is("another one is opened", opened.row(hole / 8 == 1 ? 3 : 1, 0), 15);
      is("row over " + hole + " then", opened.row(hole / 8, 255), 16);
    }
  }

  void promise02_anEdgeAtTheRimMayBeClosedIn() {
    says(ROW_KIND);
    for (int place : new int[] {3, 24, 39, 59}) {
      ParquetLayer p = floor(126, 255, 255, 255, 255, 255, 255, 126);
      boolean across = place == 24 || place == 39;
      is("EDGE at the rim", p.stone(3, place, across, 0), 0);
      is("row(0, 255)", p.row(0, 255), 62);
      is("row(7, 255)", p.row(7, 255), 64);
    }
  }

  void promise02_otherKindsMayBeClosedIn() {
    says(ROW_KIND);
    for (int kind = 0; kind < 3; kind++) {
      ParquetLayer p = floor(0, 255, 0, 255);
      p.row(2, 60);
      p.stone(kind, 18, ALONG, colourOf(kind));
      is("row(2, 255)", p.row(2, 255), 24);
    }
  }

  void promise02_aFloorThatStaysLeavesTheHand() {
    says("THE FLOOR has in row y the FIELDS whose bits are 1 (bit x): how many it has in all.");
    ParquetLayer p = plain();
    is("row(0, 15)", p.row(0, 15), 12);
    is("row(7, 0)", p.row(7, 0), 12);
    is("rank()", p.rank(), 3);
    is("row(7, 1)", p.row(7, 1), 13);
    is("rank() on another floor", p.rank(), NONE);
  }

  void promise03_eachField() {
    says("Whether a FIELD is of THE FLOOR: 1, 0.");
    for (int f = 0; f < 64; f++) {
      int want = f / 8 < 3 && f % 8 < 4 ? 1 : 0;
      int asked = f;
      askedOnly("has(" + f + ")", Sentences::plain, p -> p.has(asked), want);
    }
  }

  void promise03_noSuchField() {
    says("BEYOND.");
    for (int f : new int[] {-1, 64, 65, MIN, MAX}) refused("has(" + f + ")", Sentences::told, p -> p.has(f), BEYOND);
  }

  void promise04_anEmptyFloor() {
    says(WHATS);
    for (int what = 0; what < 4; what++) {
      int asked = what;
      askedOnly("floor(" + what + ")", ParquetLayer::new, p -> p.floor(asked), 0);
    }
  }

  void promise04_theWholeGrid() {
    says(WHATS);
    int[] want = {64, 32, 1, 1};
    for (int what = 0; what < 4; what++) {
      int asked = what;
      askedOnly("floor(" + what + ")", Sentences::wholeGrid, p -> p.floor(asked), want[what]);
    }
  }

  void promise04_asManyPiecesAsCanBe() {
    says(WHATS);
    int[] want = {32, 32, 32, 0};
    ParquetLayer p = floor(85, 170, 85, 170, 85, 170, 85, 170);
    for (int what = 0; what < 4; what++) is("DARK ones: floor(" + what + ")", p.floor(what), want[what]);
    int[] light = {32, 0, 32, 0};
    ParquetLayer q = floor(170, 85, 170, 85, 170, 85, 170, 85);
    for (int what = 0; what < 4; what++) is("LIGHT ones: floor(" + what + ")", q.floor(what), light[what]);
  }

  void promise04_piecesDoNotHangByCornersOrRowEnds() {
    says(WHATS);
    is("corners", floor(1, 2).floor(2), 2);
    is("corners to the left", floor(2, 1).floor(2), 2);
    is("row ends", floor(128, 1).floor(2), 2);
    is("first and last row", floor(8, 0, 0, 0, 0, 0, 0, 8).floor(2), 2);
    is("a snake", floor(255, 128, 255, 1, 255, 128, 255, 1).floor(2), 1);
    is("a comb", floor(255, 85, 85, 85, 85, 85, 85, 85).floor(2), 1);
    is("a comb upside down", floor(85, 85, 85, 85, 85, 85, 85, 255).floor(2), 1);
  }

  void promise04_anotherWhat() {
    says("BEYOND: another what.");
    for (int what : new int[] {-1, 4, MIN, MAX}) {
      refused("floor(" + what + ")", Sentences::told, p -> p.floor(what), BEYOND);
    }
  }
}
