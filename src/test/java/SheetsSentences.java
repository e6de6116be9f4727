/** Promises 25 to 30. */
final class SheetsSentences extends Sentences {
  private static final String SHEET =
      "A sheet has n numbers, all 0, of 8, 16 or 32 bits; bits 0: it is MISSING: n (0).";
  private static final String PUT = "Number i of a sheet becomes v (its lowest bits): 0.";
  private static final String COPY = "n numbers of a sheet from one on come to another one from one on: n.";
  private static final String COPY_BEYOND = "BEYOND: one has not so many, or from, to or n is below 0.";
  private static final String PLANKS = "THE FLOOR is told by planks: row y has the FIELDS of number y of a sheet "
      + "(its lowest 8 bits; rows for which it has none have none): how many FIELDS.";
  private static final String PLANKS_LIKE_ROW = "TWICE, KIND: as of row().";
  private static final String UNDO = "The latest act that changed THE FLOOR or STONES (row, stone, loose, planks, "
      + "without a finding) is undone, and the LAYING that was IN HAND ahead of it is so again: how many more can be.";
  private static final String KEPT = "(The latest 20 are kept; also such as changed nothing.)";
  private static final String ALL = "0 STONES, 1 GLUED ones (INLAID, too), 2 whether a LAYING is IN HAND (1, 0), "
      + "3 how many acts answered a finding ever (this one, too, if it does).";
  private static final int[] WIDTHS = {8, 16, 32};
  private static final int[] NO_SHEETS = {-1, 4, MIN, MAX};

  SheetsSentences(Due due) { super(due); }

  private static int rowOf(ParquetLayer p, int y) {
    int bits = 0;
    for (int x = 0; x < 8; x++) bits |= p.has(8 * y + x) << x;
    return bits;
  }

  /** Sheet 0 of a width with these numbers. */
  private static ParquetLayer sheetOf(int bits, int... numbers) {
    ParquetLayer p = new ParquetLayer();
    p.sheet(0, bits, numbers.length);
    for (int i = 0; i < numbers.length; i++) p.put(0, i, numbers[i]);
    return p;
  }

  private void rowsAre(String what, ParquetLayer p, int... rows) {
    for (int y = 0; y < 8; y++) is(what + ", row " + y, rowOf(p, y), y < rows.length ? rows[y] : 0);
  }

  void promise25_eachWidthAndLength() {
    says(SHEET);
    for (int bits : WIDTHS) {
      for (int n = 0; n <= 16; n++) {
        for (int s = 0; s < 4; s++) {
          ParquetLayer p = new ParquetLayer();
          is("sheet", p.sheet(s, bits, n), n);
          if (n > 0) is("last number", p.put(s, n - 1, 1), 0);
          is("behind the last", p.put(s, n, 1), BEYOND);
        }
      }
    }
  }

  void promise25_all0Again() {
    says(SHEET);
    for (int bits : WIDTHS) {
      ParquetLayer p = sheetOf(bits, 255, 255, 255, 255, 255, 255, 255, 255);
      is("planks(0)", p.planks(0), 64);
      is("shorter", p.sheet(0, bits, 2), 2);
      is("planks(0) of the shorter", p.planks(0), 0);
      is("longer", p.sheet(0, bits, 8), 8);
      is("planks(0) of the longer", p.planks(0), 0);
    }
  }

  void promise25_aSheetOfNone() {
    says(SHEET);
    ParquetLayer p = floor(255);
    is("sheet(0, 8, 0)", p.sheet(0, 8, 0), 0);
    is("it is not MISSING", p.copy(0, 0, 0, 0, 0), 0);
    is("put(0, 0, 1)", p.put(0, 0, 1), BEYOND);
    is("planks(0)", p.planks(0), 0);
  }

  void promise25_missingAgain() {
    says(SHEET);
    ParquetLayer p = plain();
    is("sheet(0, 0, 0)", p.sheet(0, 0, 0), 0);
    is("put", p.put(0, 0, 0), MISSING);
    is("planks", p.planks(0), MISSING);
    is("copy", p.copy(0, 0, 1, 0, 0), MISSING);
    is("sheet(1, 0, 16), the numbers are none", p.sheet(1, 0, 16), 0);
    is("put", p.put(1, 0, 0), MISSING);
    is("the others stay", p.planks(2), 24);
    is("MISSING when it is so", p.sheet(3, 0, 0), 0);
  }

  void promise25_sheetsLeaveFloorAndHand() {
    says(SHEET);
    ParquetLayer p = plain();
    p.sheet(0, 8, 3);
    p.sheet(1, 0, 0);
    p.put(0, 0, 255);
    p.copy(0, 0, 0, 1, 2);
    is("rank()", p.rank(), 3);
    is("floor(0)", p.floor(0), 12);
    is("they can't be undone", p.undo(), 2);
  }

  void promise25_noSuchSheetOrBits() {
    says("BEYOND: no such sheet, or bits.");
    for (int s : NO_SHEETS) refused("sheet(" + s + ", 8, 1)", Sentences::told, p -> p.sheet(s, 8, 1), BEYOND);
    for (int bits : new int[] {-8, -1, 1, 7, 9, 15, 17, 24, 31, 33, 64, MIN, MAX}) {
      refused("sheet(0, " + bits + ", 1)", Sentences::told, p -> p.sheet(0, bits, 1), BEYOND);
    }
  }

  void promise25_nTooSmall() {
    says("SIZE: n is below 0.");
    for (int n : new int[] {-1, -16, MIN}) {
      for (int bits : new int[] {0, 8, 16, 32}) {
        refused("sheet(0, " + bits + ", " + n + ")", Sentences::told, p -> p.sheet(0, bits, n), SIZE);
      }
    }
  }

  void promise25_nTooLarge() {
    says("BEYOND: n is above 16.");
    for (int n : new int[] {17, 18, MAX}) {
      for (int bits : new int[] {0, 8, 16, 32}) {
        refused("sheet(0, " + bits + ", " + n + ")", Sentences::told, p -> p.sheet(0, bits, n), BEYOND);
      }
    }
  }

  void promise26_eachNumber() {
    says(PUT);
    for (int i = 0; i < 8; i++) {
      ParquetLayer p = sheetOf(8, 0, 0, 0, 0, 0, 0, 0, 0);
      is("put(0, " + i + ", 129)", p.put(0, i, 129), 0);
      is("planks(0)", p.planks(0), 2);
      is("its row", rowOf(p, i), 129);
    }
  }

  void promise26_itsLowestBits() {
    says(PUT);
    int[] values = {0, 1, 128, 255, 256, 257, -1, -256, -255, 65536, MIN, MAX};
    for (int bits : WIDTHS) {
      for (int v : values) {
        ParquetLayer p = sheetOf(bits, 85, 7);
        is("put(0, 0, " + v + ")", p.put(0, 0, v), 0);
        p.planks(0);
        rowsAre(bits + " bits of " + v, p, v & 255, 7);
      }
    }
  }

  void promise26_noSuchSheet() {
    says("BEYOND: no such sheet.");
    for (int s : NO_SHEETS) refused("put(" + s + ", 0, 1)", Sentences::told, p -> p.put(s, 0, 1), BEYOND);
  }

  void promise26_missing() {
    says("MISSING.");
    refused("put(3, 0, 1)", Sentences::told, p -> p.put(3, 0, 1), MISSING);
    refused("put(3, -1, 1)", Sentences::told, p -> p.put(3, -1, 1), MISSING);
    for (int s = 0; s < 4; s++) {
      int asked = s;
      refused("put(" + s + ", 0, 1)", ParquetLayer::new, p -> p.put(asked, 0, 1), MISSING);
    }
  }

  void promise26_noSuchNumber() {
    says("BEYOND: no such number.");
    int[] lengths = {8, 16, 3};
    for (int s = 0; s < 3; s++) {
      int asked = s;
      for (int i : new int[] {-1, lengths[s], 17, MIN, MAX}) {
        refused("put(" + s + ", " + i + ", 1)", Sentences::told, p -> p.put(asked, i, 1), BEYOND);
      }
    }
    refused("of a sheet of none", () -> sheetOf(8), p -> p.put(0, 0, 1), BEYOND);
  }

  void promise27_toAnotherSheet() {
    says(COPY);
    for (int bits : WIDTHS) {
      ParquetLayer p = sheetOf(bits, 1, 2, 4, 8);
      p.sheet(3, bits, 8);
      is("copy(0, 1, 3, 5, 3)", p.copy(0, 1, 3, 5, 3), 3);
      p.planks(3);
      rowsAre("to", p, 0, 0, 0, 0, 0, 2, 4, 8);
      p.planks(0);
      rowsAre("from", p, 1, 2, 4, 8);
    }
  }

  void promise27_allSixteen() {
    says(COPY);
    ParquetLayer p = plain();
    p.sheet(0, 16, 16);
    is("copy(1, 0, 0, 0, 16)", p.copy(1, 0, 0, 0, 16), 16);
    p.sheet(1, 16, 8);
    is("the last eight", p.copy(0, 8, 1, 0, 8), 8);
    p.planks(1);
    rowsAre("the last eight", p, 25, 28, 31, 34, 37, 40, 43, 46);
  }

  void promise27_ontoItself() {
    says(COPY);
    ParquetLayer up = sheetOf(8, 1, 2, 4, 8);
    is("up", up.copy(0, 0, 0, 1, 3), 3);
    up.planks(0);
    rowsAre("up", up, 1, 1, 2, 4);
    ParquetLayer down = sheetOf(8, 1, 2, 4, 8);
    is("down", down.copy(0, 1, 0, 0, 3), 3);
    down.planks(0);
    rowsAre("down", down, 2, 4, 8, 8);
    ParquetLayer same = sheetOf(8, 1, 2, 4, 8);
    is("in place", same.copy(0, 0, 0, 0, 4), 4);
    same.planks(0);
    rowsAre("in place", same, 1, 2, 4, 8);
  }

  void promise27_ofNone() {
    says(COPY);
    askedOnly("at the first", Sentences::told, p -> p.copy(0, 0, 0, 0, 0), 0);
    askedOnly("at the end", Sentences::told, p -> p.copy(0, 8, 0, 8, 0), 0);
    askedOnly("of sheets of none", () -> {
      ParquetLayer p = sheetOf(8);
      p.sheet(1, 8, 0);
      return p;
    }, p -> p.copy(0, 0, 1, 0, 0), 0);
  }

  void promise27_noSuchSheet() {
    says("BEYOND: no such sheet (either).");
    for (int s : NO_SHEETS) {
      refused("from sheet " + s, Sentences::told, p -> p.copy(s, 0, 0, 0, 1), BEYOND);
      refused("to sheet " + s, Sentences::told, p -> p.copy(0, 0, s, 0, 1), BEYOND);
      refused("from sheet " + s + " to a MISSING one", Sentences::told, p -> p.copy(s, 0, 3, 0, 1), BEYOND);
      refused("from a MISSING one to sheet " + s, Sentences::told, p -> p.copy(3, 0, s, 0, 1), BEYOND);
    }
  }

  void promise27_oneIsMissing() {
    says("MISSING: one is.");
    refused("from", Sentences::told, p -> p.copy(3, 0, 0, 0, 1), MISSING);
    refused("to", Sentences::told, p -> p.copy(0, 0, 3, 0, 1), MISSING);
    refused("both", Sentences::told, p -> p.copy(3, 0, 3, 0, 1), MISSING);
    refused("of none", Sentences::told, p -> p.copy(3, 0, 0, 0, 0), MISSING);
    refused("of less", Sentences::told, p -> p.copy(0, -1, 3, -1, -1), MISSING);
  }

  void promise27_notOfAsManyBits() {
    says("KIND: they are not of as many bits.");
    for (int s = 0; s < 3; s++) {
      for (int t = 0; t < 3; t++) {
        int from = s;
        int to = t;
        if (s == t) continue;
        refused("from " + s + " to " + t, Sentences::told, p -> p.copy(from, 0, to, 0, 1), KIND);
        refused("of none", Sentences::told, p -> p.copy(from, 0, to, 0, 0), KIND);
        refused("beyond", Sentences::told, p -> p.copy(from, -1, to, 99, MAX), KIND);
      }
    }
  }

  private static ParquetLayer fourAndEight() {
    ParquetLayer p = sheetOf(8, 1, 2, 4, 8);
    p.sheet(1, 8, 8);
    p.put(1, 0, 16);
    return p;
  }

  void promise27_notSoMany() {
    says(COPY_BEYOND);
    refused("5 of 4", SheetsSentences::fourAndEight, p -> p.copy(0, 0, 1, 0, 5), BEYOND);
    refused("2 from 3 on", SheetsSentences::fourAndEight, p -> p.copy(0, 3, 1, 0, 2), BEYOND);
    refused("1 from 4 on", SheetsSentences::fourAndEight, p -> p.copy(0, 4, 1, 0, 1), BEYOND);
    refused("5 to 4", SheetsSentences::fourAndEight, p -> p.copy(1, 0, 0, 0, 5), BEYOND);
    refused("3 to 6 on", SheetsSentences::fourAndEight, p -> p.copy(0, 0, 1, 6, 3), BEYOND);
    refused("1 to 8 on", SheetsSentences::fourAndEight, p -> p.copy(0, 0, 1, 8, 1), BEYOND);
    is("4 to 4 on", fourAndEight().copy(0, 0, 1, 4, 4), 4);
    is("4 from 4 on", fourAndEight().copy(1, 4, 0, 0, 4), 4);
  }

  void promise27_noneFromBeyondTheEnd() {
    says(COPY_BEYOND);
    refused("from 5 on", SheetsSentences::fourAndEight, p -> p.copy(0, 5, 1, 0, 0), BEYOND);
    refused("to 9 on", SheetsSentences::fourAndEight, p -> p.copy(0, 0, 1, 9, 0), BEYOND);
    is("from 4 on to 8 on", fourAndEight().copy(0, 4, 1, 8, 0), 0);
  }

  void promise27_below0() {
    says(COPY_BEYOND);
    for (int low : new int[] {-1, MIN}) {
      refused("from " + low, SheetsSentences::fourAndEight, p -> p.copy(0, low, 1, 0, 1), BEYOND);
      refused("to " + low, SheetsSentences::fourAndEight, p -> p.copy(0, 0, 1, low, 1), BEYOND);
      refused("n " + low, SheetsSentences::fourAndEight, p -> p.copy(0, 0, 1, 0, low), BEYOND);
      refused("from " + low + ", none", SheetsSentences::fourAndEight, p -> p.copy(0, low, 1, 0, 0), BEYOND);
      refused("to " + low + ", none", SheetsSentences::fourAndEight, p -> p.copy(0, 0, 1, low, 0), BEYOND);
      refused("n " + low + " from the end", SheetsSentences::fourAndEight, p -> p.copy(0, 4, 1, 8, low), BEYOND);
    }
  }

  void promise27_sumsThatWrapAround() {
    says(COPY_BEYOND);
    int[][] wraps = {{MAX, 0, 1}, {0, MAX, 1}, {1, 0, MAX}, {0, 1, MAX}, {MAX, MAX, MAX}, {MIN, 0, MIN}, {0, MIN, MIN}};
    for (int[] w : wraps) {
      refused("copy(0, " + w[0] + ", 1, " + w[1] + ", " + w[2] + ")", SheetsSentences::fourAndEight,
          p -> p.copy(0, w[0], 1, w[1], w[2]), BEYOND);
    }
  }

  void promise28_eachLength() {
    says(PLANKS);
    for (int bits : WIDTHS) {
      for (int n = 0; n <= 8; n++) {
        ParquetLayer p = wholeGrid();
        p.sheet(2, bits, n);
        int[] rows = new int[n];
        for (int i = 0; i < n; i++) {
          rows[i] = 1 << i;
          p.put(2, i, rows[i]);
        }
        is("planks(2) of " + n, p.planks(2), n);
        rowsAre(n + " numbers", p, rows);
      }
    }
  }

  void promise28_itsLowest8Bits() {
    says(PLANKS);
    for (int bits : new int[] {16, 32}) {
      ParquetLayer p = sheetOf(bits, 256, 0x1FF, -1, -256, MIN, MAX, 0x8001, 0x7F00);
      is("planks(0)", p.planks(0), 25);
      rowsAre(bits + " bits", p, 0, 255, 255, 0, 0, 255, 1, 0);
    }
  }

  void promise28_theHandGoesWithTheFloor() {
    says(PLANKS);
    ParquetLayer p = plain();
    is("planks(0)", p.planks(0), 8);
    is("rank()", p.rank(), NONE);
  }

  void promise28_aFloorThatStaysLeavesTheHand() {
    says(PLANKS);
    ParquetLayer p = plain();
    p.sheet(3, 8, 3);
    for (int y = 0; y < 3; y++) p.put(3, y, 15);
    is("planks(3)", p.planks(3), 12);
    is("rank()", p.rank(), 3);
  }

  void promise28_noSuchSheet() {
    says("BEYOND: no such sheet.");
    for (int s : NO_SHEETS) refused("planks(" + s + ")", Sentences::told, p -> p.planks(s), BEYOND);
  }

  void promise28_missing() {
    says("MISSING.");
    refused("planks(3)", Sentences::told, p -> p.planks(3), MISSING);
    for (int s = 0; s < 4; s++) {
      int asked = s;
      refused("planks(" + s + ")", ParquetLayer::new, p -> p.planks(asked), MISSING);
    }
  }

  void promise28_moreThan8Numbers() {
    says("SIZE: it has more than 8 numbers.");
    for (int bits : WIDTHS) {
      for (int n = 9; n <= 16; n++) {
        int length = n;
        refused(n + " numbers", () -> {
          ParquetLayer p = plain();
          p.sheet(0, bits, length);
          return p;
        }, p -> p.planks(0), SIZE);
      }
    }
    refused("SIZE ahead of TWICE", Sentences::told, p -> p.planks(1), SIZE);
  }

  void promise28_aStoneWouldLoseAField() {
    says(PLANKS_LIKE_ROW);
    for (int kind = 0; kind < 4; kind++) {
      int told = kind;
      int[][] sheets = {{13, 15}, {11, 15}, {0, 15}, {}};
      for (int[] rows : sheets) {
        refused("kind " + kind, () -> {
          ParquetLayer p = sheetOf(8, rows);
          p.row(0, 15);
          p.row(1, 15);
          p.stone(told, 1, ALONG, colourOf(told));
          p.lay(0);
          return p;
        }, p -> p.planks(0), TWICE);
      }
    }
  }

  private static ParquetLayer edgeAmid(int... rows) {
    ParquetLayer p = sheetOf(8, rows);
    p.row(1, 255);
    p.row(2, 12);
    p.stone(3, 18, ALONG, 0);
    return p;
  }

  void promise28_anEdgeWouldTouchNoSuchPlace() {
    says(PLANKS_LIKE_ROW);
    refused("closed in", () -> edgeAmid(0, 12, 30, 12), p -> p.planks(0), KIND);
    refused("all of the grid", () -> edgeAmid(255, 255, 255, 255, 255, 255, 255, 255), p -> p.planks(0), KIND);
    is("open above", edgeAmid(0, 4, 30, 12).planks(0), 7);
    is("open under", edgeAmid(0, 12, 30, 8).planks(0), 7);
    is("open at an end", edgeAmid(0, 12, 14, 12).planks(0), 7);
  }

  void promise28_twiceAheadOfKind() {
    says(PLANKS_LIKE_ROW);
    refused("the EDGE told first", () -> {
      ParquetLayer p = edgeAmid(0, 12, 30, 12);
      p.stone(0, 8, ALONG, 0);
      return p;
    }, p -> p.planks(0), TWICE);
    refused("the EDGE told last", () -> {
      ParquetLayer p = edgeAmid(0, 12, 30, 12);
      p.loose();
      p.stone(0, 8, ALONG, 0);
      p.stone(3, 18, ALONG, 0);
      return p;
    }, p -> p.planks(0), TWICE);
  }

  void promise29_eachAct() {
    says(UNDO);
    ParquetLayer p = told();
    is("stone undone", p.undo(), 8);
    is("all(0)", p.all(0), 4);
    is("its hand", p.rank(), 2);
    p.loose();
    is("loose undone", p.undo(), 8);
    is("all(0)", p.all(0), 4);
    is("the STONE is as it was", p.told(3, 1) * 100 + p.told(3, 0) * 10 + p.told(3, 2), 831);
    is("its hand", p.rank(), 2);
    for (int left = 7; left >= 5; left--) {
      is("stone undone", p.undo(), left);
      is("no hand then", p.rank(), NONE);
    }
    is("first stone undone", p.undo(), 4);
    is("all(0)", p.all(0), 0);
    is("its hand", p.rank(), 5);
    for (int left = 3; left >= 0; left--) {
      is("row undone", p.undo(), left);
      is("floor(0)", p.floor(0), 6 * left);
    }
    is("no more", p.undo(), NONE);
  }

  void promise29_planks() {
    says(UNDO);
    ParquetLayer p = plain();
    p.planks(0);
    p.lay(0);
    is("planks undone", p.undo(), 3);
    rowsAre("the floor of then", p, 15, 15, 15);
    is("its hand", p.rank(), 3);
    is("the sheet stays", p.planks(0), 8);
  }

  void promise29_theLayingAheadOfItIsWhole() {
    says(UNDO);
    ParquetLayer p = told();
    int[] partners = new int[64];
    for (int f = 0; f < 64; f++) partners[f] = p.partner(f);
    p.loose();
    p.lay(0);
    is("undo()", p.undo(), 9);
    for (int f = 0; f < 64; f++) is("partner(" + f + ")", p.partner(f), partners[f]);
    is("next() goes on", p.next(), 2);
  }

  void promise29_noneInHandAheadOfIt() {
    says(UNDO);
    ParquetLayer p = floor(15, 15);
    p.row(2, 15);
    p.lay(4);
    is("undo()", p.undo(), 2);
    is("rank()", p.rank(), NONE);
    is("all(2)", p.all(2), 0);
  }

  void promise29_turnsAndDrawsAreNoSuchActs() {
    says(UNDO);
    ParquetLayer p = plain();
    p.lay(0);
    p.turn(0);
    p.next();
    p.draw(3);
    p.sheet(0, 8, 1);
    p.put(0, 0, 1);
    p.copy(0, 0, 0, 0, 1);
    is("the row is undone", p.undo(), 2);
    is("floor(0)", p.floor(0), 8);
    is("sheets stay", p.planks(0), 1);
  }

  void promise29_findingsAreNotKept() {
    says(UNDO);
    ParquetLayer p = told();
    p.row(8, 0);
    p.row(0, 0);
    p.stone(0, 7, ALONG, 0);
    p.planks(3);
    p.planks(0);
    is("undo()", p.undo(), 8);
    is("all(0)", p.all(0), 4);
    ParquetLayer q = plain();
    q.loose();
    is("undo()", q.undo(), 2);
  }

  void promise29_anUndoIsNoSuchAct() {
    says(UNDO);
    ParquetLayer p = floor(1, 3);
    is("undo()", p.undo(), 1);
    is("undo()", p.undo(), 0);
    is("undo()", p.undo(), NONE);
    is("floor(0)", p.floor(0), 0);
    is("told anew", p.row(0, 1), 1);
    is("undo()", p.undo(), 0);
  }

  void promise29_nothingToUndo() {
    says("NONE.");
    refused("at first", ParquetLayer::new, ParquetLayer::undo, NONE);
    refused("when all is undone", () -> {
      ParquetLayer p = floor(15);
      p.undo();
      p.lay(0);
      return p;
    }, ParquetLayer::undo, NONE);
  }

  void promise29_exactly20() {
    says(KEPT);
    ParquetLayer p = new ParquetLayer();
    for (int i = 1; i <= 20; i++) p.row(0, i);
    for (int left = 19; left >= 0; left--) {
      is("undo()", p.undo(), left);
      is("row of then", rowOf(p, 0), left);
    }
    is("no more", p.undo(), NONE);
  }

  void promise29_oneMoreThan20() {
    says(KEPT);
    ParquetLayer p = new ParquetLayer();
    for (int i = 1; i <= 21; i++) p.row(0, i);
    for (int left = 19; left >= 0; left--) {
      is("undo()", p.undo(), left);
      is("row of then", rowOf(p, 0), left + 1);
    }
    is("no more", p.undo(), NONE);
    is("the oldest stays", rowOf(p, 0), 1);
  }

  void promise29_moreWhenFullAgain() {
    says(KEPT);
    ParquetLayer p = new ParquetLayer();
    for (int i = 1; i <= 45; i++) p.row(0, i);
    for (int i = 0; i < 5; i++) p.undo();
    for (int i = 0; i < 7; i++) p.row(1, i);
    is("undo()", p.undo(), 19);
    for (int i = 0; i < 6; i++) p.undo();
    is("row 0 of then", rowOf(p, 0), 40);
    for (int i = 0; i < 13; i++) p.undo();
    is("no more", p.undo(), NONE);
    is("the oldest", rowOf(p, 0), 27);
  }

  void promise29_suchAsChangedNothing() {
    says(KEPT);
    ParquetLayer p = plain();
    for (int i = 0; i < 20; i++) p.row(0, 15);
    for (int left = 19; left >= 0; left--) {
      is("undo()", p.undo(), left);
      is("floor(0)", p.floor(0), 12);
      is("rank()", p.rank(), 3);
    }
    is("the rows are forgotten", p.undo(), NONE);
    ParquetLayer q = new ParquetLayer();
    q.sheet(0, 8, 0);
    is("planks(0)", q.planks(0), 0);
    is("row(3, 0)", q.row(3, 0), 0);
    is("undo()", q.undo(), 1);
    is("undo()", q.undo(), 0);
  }

  void promise30_eachWhat() {
    says(ALL);
    int[] want = {5, 2, 1, 0};
    for (int what = 0; what < 4; what++) {
      int asked = what;
      askedOnly("all(" + what + ")", Sentences::told, p -> p.all(asked), want[what]);
    }
    is("twenty STONES", full().all(0), 20);
    is("one GLUED", full().all(1), 1);
    is("no hand", floor(15).all(2), 0);
  }

  void promise30_findingsEver() {
    says(ALL);
    ParquetLayer p = told();
    for (int i = 1; i <= 40; i++) {
      p.has(64);
      is("all(3)", p.all(3), i);
    }
    p.told(0, 4);
    p.loose();
    is("told(0, 4) without a hand is no finding", p.told(0, 4), -1);
    is("all(3)", p.all(3), 40);
    p.undo();
    is("undo() takes none back", p.all(3), 40);
  }

  void promise30_anotherWhatCountsItself() {
    says("BEYOND: another what.");
    for (int what : new int[] {-1, 4, MIN, MAX}) {
      refused("all(" + what + ")", Sentences::told, p -> p.all(what), BEYOND);
    }
  }
}
