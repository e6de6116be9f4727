/** Promises 5 to 8. */
final class StonesSentences extends Sentences {
  private static final String BEYOND_STONE =
      "BEYOND: no such kind, FIELD, or COLOUR (of INLAID ones 1 to 99, of others 0).";
  private static final String SIZE_STONE = "SIZE: a FIELD of it is none, or not of THE FLOOR.";
  private static final String TWICE_STONE = "TWICE: it is GLUED, or INLAID, and another such one covers a FIELD of it.";
  private static final String KIND_STONE = "KIND: it is an EDGE that touches no such place.";
  private static final String FULL_STONE = "FULL: there are 20.";
  private static final String TOLD = "Of a STONE: 0 its kind, 1 its FIELD, 2 whether ACROSS (1, 0), 3 its COLOUR, "
      + "4 whether it lies so in THE LAYING IN HAND (1, 0; -1 without one: no finding).";

  StonesSentences(Due due) { super(due); }

  void promise05_numbersFrom0To19() {
    says("A STONE is told: its number.");
    ParquetLayer p = floor(255, 255, 255, 255, 255);
    for (int i = 0; i < 20; i++) {
      is("stone " + i, p.stone(i % 4 == 1 ? 0 : 3, i < 8 ? i : 32 + i % 4, i < 8, 0), i);
      is("all(0)", p.all(0), i + 1);
    }
  }

  void promise05_firstAndLastPlaceOfTheGrid() {
    says("A STONE is told: its number.");
    ParquetLayer p = wholeGrid();
    is("first ALONG", p.stone(0, 0, ALONG, 0), 0);
    is("first ACROSS", p.stone(0, 0, ACROSS, 0), 1);
    is("last ALONG", p.stone(0, 62, ALONG, 0), 2);
    is("last ACROSS", p.stone(0, 55, ACROSS, 0), 3);
  }

  void promise05_noSuchKind() {
    says(BEYOND_STONE);
    for (int kind : new int[] {-1, 4, MIN, MAX}) {
      refused("kind " + kind, Sentences::told, p -> p.stone(kind, 3, ALONG, 0), BEYOND);
      refused("kind " + kind + " with a COLOUR", Sentences::told, p -> p.stone(kind, 3, ALONG, 5), BEYOND);
    }
  }

  void promise05_noSuchField() {
    says(BEYOND_STONE);
    for (int f : new int[] {-1, -8, 64, MIN, MAX}) {
      refused("ALONG at " + f, Sentences::wholeGrid, p -> p.stone(0, f, ALONG, 0), BEYOND);
      refused("ACROSS at " + f, Sentences::wholeGrid, p -> p.stone(0, f, ACROSS, 0), BEYOND);
    }
  }

  void promise05_colourTooSmallOrTooLarge() {
    says(BEYOND_STONE);
    for (int colour : new int[] {0, -1, 100, MIN, MAX}) {
      refused("INLAID of " + colour, Sentences::plain, p -> p.stone(2, 0, ALONG, colour), BEYOND);
    }
    is("INLAID of 1", plain().stone(2, 0, ALONG, 1), 0);
    is("INLAID of 99", plain().stone(2, 0, ALONG, 99), 0);
  }

  void promise05_colourOfOthers() {
    says(BEYOND_STONE);
    for (int kind : new int[] {0, 1, 3}) {
      for (int colour : new int[] {-1, 1, 99, MIN, MAX}) {
        refused("kind " + kind + " of " + colour, Sentences::plain, p -> p.stone(kind, 0, ALONG, colour), BEYOND);
      }
      is("kind " + kind + " of 0", plain().stone(kind, 0, ALONG, 0), 0);
    }
  }

  void promise05_aFieldIsNone() {
    says(SIZE_STONE);
    for (int i = 0; i < 8; i++) {
      int right = 8 * i + 7;
      int lowest = 56 + i;
      refused("ALONG at " + right, Sentences::wholeGrid, p -> p.stone(0, right, ALONG, 0), SIZE);
      refused("ACROSS at " + lowest, Sentences::wholeGrid, p -> p.stone(0, lowest, ACROSS, 0), SIZE);
    }
  }

  void promise05_aFieldIsNotOfTheFloor() {
    says(SIZE_STONE);
    for (int kind = 0; kind < 4; kind++) {
      int told = kind;
      Made made = () -> floor(0b0110, 0b0110);
      refused("first", made, p -> p.stone(told, 0, ALONG, colourOf(told)), SIZE);
      refused("second", made, p -> p.stone(told, 2, ALONG, colourOf(told)), SIZE);
      refused("both", made, p -> p.stone(told, 40, ALONG, colourOf(told)), SIZE);
      refused("under", made, p -> p.stone(told, 9, ACROSS, colourOf(told)), SIZE);
      refused("both, across", made, p -> p.stone(told, 0, ACROSS, colourOf(told)), SIZE);
      refused("none at all", ParquetLayer::new, p -> p.stone(told, 0, ALONG, colourOf(told)), SIZE);
    }
    refused("first, across", () -> floor(0, 1), p -> p.stone(0, 0, ACROSS, 0), SIZE);
  }

  void promise05_twoGluedOnOneField() {
    says(TWICE_STONE);
    // all places that have a FIELD in common with the one ALONG at 9 (9 and 10)
    int[] along = {8, 9, 10};
    int[] across = {1, 2, 9, 10};
    for (int first = 1; first <= 2; first++) {
      int lower = first;
      Made made = () -> {
        ParquetLayer p = floor(15, 15, 15, 15);
        p.stone(lower, 9, ALONG, colourOf(lower));
        p.lay(1);
        return p;
      };
      for (int second = 1; second <= 2; second++) {
        int upper = second;
        for (int f : along) refused("ALONG at " + f, made, p -> p.stone(upper, f, ALONG, colourOf(upper)), TWICE);
        for (int f : across) refused("ACROSS at " + f, made, p -> p.stone(upper, f, ACROSS, colourOf(upper)), TWICE);
        is("side by side", made.make().stone(upper, 1, ALONG, colourOf(upper)), 1);
        is("end to end", made.make().stone(upper, 11, ACROSS, colourOf(upper)), 1);
      }
    }
  }

  void promise05_othersMayLieOverEachOther() {
    says(TWICE_STONE);
    ParquetLayer p = floor(15, 15, 15);
    is("GLUED", p.stone(1, 0, ALONG, 0), 0);
    is("STONE over GLUED", p.stone(0, 1, ALONG, 0), 1);
    is("EDGE over GLUED", p.stone(3, 0, ACROSS, 0), 2);
    is("STONE over STONE", p.stone(0, 1, ALONG, 0), 3);
    is("EDGE over EDGE", p.stone(3, 0, ACROSS, 0), 4);
    is("GLUED over STONE", p.stone(1, 2, ALONG, 0), 5);
    is("INLAID over EDGE", p.stone(2, 8, ALONG, 3), 6);
  }

  void promise05_aGluedOneThatWentIsNoHindrance() {
    says(TWICE_STONE);
    ParquetLayer p = floor(15, 15);
    p.stone(1, 0, ALONG, 0);
    p.loose();
    is("after loose()", p.stone(2, 1, ALONG, 1), 0);
    p.undo();
    is("after undo()", p.stone(1, 0, ACROSS, 0), 0);
  }

  void promise05_anEdgeThatTouchesNothing() {
    says(KIND_STONE);
    // amid the grid every place away from the rim touches nothing
    for (int y = 1; y <= 6; y++) {
      for (int x = 1; x <= 6; x++) {
        int f = 8 * y + x;
        if (x < 6) refused("ALONG at " + f, Sentences::wholeGrid, p -> p.stone(3, f, ALONG, 0), KIND);
        else is("ALONG at " + f, wholeGrid().stone(3, f, ALONG, 0), 0);
        if (y < 6) refused("ACROSS at " + f, Sentences::wholeGrid, p -> p.stone(3, f, ACROSS, 0), KIND);
        else is("ACROSS at " + f, wholeGrid().stone(3, f, ACROSS, 0), 0);
      }
    }
  }

  void promise05_anEdgeThatTouchesByACornerOnly() {
    says(KIND_STONE);
    // the places at the corners of the stone at 18 and 19: 9, 12, 25, 28
    refused("corners", () -> floor(255, 237, 255, 237, 255), p -> p.stone(3, 18, ALONG, 0), KIND);
  }

  void promise05_anEdgeThatTouchesOnePlace() {
    says(KIND_STONE);
    for (int hole : new int[] {10, 11, 17, 20, 26, 27}) {
      ParquetLayer p = new ParquetLayer();
      for (int y = 0; y < 5; y++) p.row(y, y == hole / 8 ? 255 & ~(1 << hole % 8) : 255);
      is("only " + hole, p.stone(3, 18, ALONG, 0), 0);
    }
    for (int hole : new int[] {10, 17, 19, 25, 27, 34}) {
      ParquetLayer p = new ParquetLayer();
      for (int y = 0; y < 6; y++) p.row(y, y == hole / 8 ? 255 & ~(1 << hole % 8) : 255);
      is("across, only " + hole, p.stone(3, 18, ACROSS, 0), 0);
    }
  }

  void promise05_anEdgeBeyondTheGrid() {
    says(KIND_STONE);
    int[] along = {0, 3, 6, 8, 14, 32, 38, 56, 59, 62};
    int[] across = {0, 3, 7, 8, 15, 47, 48, 51, 55};
    for (int f : along) is("ALONG at " + f, wholeGrid().stone(3, f, ALONG, 0), 0);
    for (int f : across) is("ACROSS at " + f, wholeGrid().stone(3, f, ACROSS, 0), 0);
  }

  void promise05_thereAre20() {
    says(FULL_STONE);
    for (int kind = 0; kind < 4; kind++) {
      int told = kind;
      refused("kind " + kind, Sentences::full, p -> p.stone(told, 24, ACROSS, colourOf(told)), FULL);
    }
  }

  void promise05_roomAgain() {
    says(FULL_STONE);
    ParquetLayer p = full();
    is("loose()", p.loose(), 19);
    is("stone", p.stone(0, 0, ALONG, 0), 19);
    is("one more", p.stone(0, 0, ALONG, 0), FULL);
    is("undo()", p.undo(), 19);
    is("stone after undo()", p.stone(0, 0, ALONG, 0), 19);
    is("one more", p.stone(0, 0, ALONG, 0), FULL);
  }

  void promise06_downToNone() {
    says("The latest STONE goes: how many there are.");
    ParquetLayer p = full();
    for (int left = 19; left >= 0; left--) {
      is("loose()", p.loose(), left);
      is("all(0)", p.all(0), left);
      is("the one that went", p.told(left, 0), BEYOND);
      if (left > 0) is("the one ahead of it", p.told(left - 1, 1), left - 1);
    }
    is("loose()", p.loose(), NONE);
  }

  void promise06_whatWasGluedIsLoose() {
    says("The latest STONE goes: how many there are.");
    ParquetLayer p = floor(15, 15);
    p.stone(1, 1, ALONG, 0);
    is("count() of a GLUED one", p.count(), 1);
    is("loose()", p.loose(), 0);
    is("count()", p.count(), 5);
    is("floor(3)", p.floor(3), 1);
    is("all(1)", p.all(1), 0);
  }

  void promise06_theHandGoesWithAStone() {
    says("The latest STONE goes: how many there are.");
    ParquetLayer p = told();
    is("rank()", p.rank(), 1);
    is("loose()", p.loose(), 4);
    is("rank() then", p.rank(), NONE);
  }

  void promise06_noStone() {
    says("NONE.");
    refused("loose()", ParquetLayer::new, ParquetLayer::loose, NONE);
    refused("loose() on a floor", Sentences::plain, ParquetLayer::loose, NONE);
    refused("loose() when all went", () -> {
      ParquetLayer p = plain();
      p.stone(1, 0, ALONG, 0);
      p.loose();
      p.lay(2);
      return p;
    }, ParquetLayer::loose, NONE);
  }

  void promise07_itsOwnKindAndThoseAbove() {
    says("A STONE as one of a kind: its number.");
    // told(): STONE, GLUED, INLAID, EDGE, STONE
    int[][] fits = {{0}, {0, 1}, {0, 1, 2}, {0, 3}, {0}};
    for (int s = 0; s < 5; s++) {
      int stone = s;
      for (int kind : fits[s]) askedOnly("as(" + s + ", " + kind + ")", Sentences::told, p -> p.as(stone, kind), s);
    }
  }

  void promise07_noSuchStone() {
    says("BEYOND: no such STONE, or kind.");
    for (int s : new int[] {-1, 5, 20, MIN, MAX}) refused("as(" + s + ", 0)", Sentences::told, p -> p.as(s, 0), BEYOND);
    refused("as(20, 0) of twenty", Sentences::full, p -> p.as(20, 0), BEYOND);
    refused("as(0, 0) of none", Sentences::plain, p -> p.as(0, 0), BEYOND);
    is("as(19, 0) of twenty", full().as(19, 0), 19);
  }

  void promise07_noSuchKind() {
    says("BEYOND: no such STONE, or kind.");
    for (int kind : new int[] {-1, 4, MIN, MAX}) {
      for (int s = 0; s < 5; s++) {
        int stone = s;
        refused("as(" + s + ", " + kind + ")", Sentences::told, p -> p.as(stone, kind), BEYOND);
      }
    }
  }

  void promise07_notOfThatKind() {
    says("KIND: it is not of that kind, nor of one under it.");
    int[][] others = {{1, 2, 3}, {2, 3}, {3}, {1, 2}, {1, 2, 3}};
    for (int s = 0; s < 5; s++) {
      int stone = s;
      for (int kind : others[s]) refused("as(" + s + ", " + kind + ")", Sentences::told, p -> p.as(stone, kind), KIND);
    }
  }

  void promise08_eachWhatOfEachKind() {
    says(TOLD);
    int[][] want = {{0, 2, 1, 0}, {1, 0, 0, 0}, {2, 26, 0, 42}, {3, 8, 1, 0}, {0, 2, 1, 0}};
    for (int s = 0; s < 5; s++) {
      for (int what = 0; what < 4; what++) {
        int stone = s;
        int asked = what;
        askedOnly("told(" + s + ", " + what + ")", Sentences::told, p -> p.told(stone, asked), want[s][what]);
      }
    }
  }

  void promise08_withoutALayingInHand() {
    says(TOLD);
    Made made = () -> {
      ParquetLayer p = plain();
      p.stone(0, 0, ALONG, 0);
      p.stone(1, 0, ALONG, 0);
      return p;
    };
    askedOnly("told(0, 4)", made, p -> p.told(0, 4), -1);
    askedOnly("told(1, 4), GLUED", made, p -> p.told(1, 4), -1);
  }

  void promise08_liesSoInEachLaying() {
    says(TOLD);
    ParquetLayer p = floor(7, 7);
    p.stone(0, 0, ALONG, 0);
    p.stone(3, 1, ALONG, 0);
    p.stone(0, 0, ACROSS, 0);
    p.stone(0, 2, ACROSS, 0);
    // 0: along, across at the right; 1: across at the left, along; 2: all across
    int[][] lies = {{1, 0, 0, 1}, {0, 1, 1, 0}, {0, 0, 1, 1}};
    for (int n = 0; n < 3; n++) {
      p.lay(n);
      for (int s = 0; s < 4; s++) is("told(" + s + ", 4) in " + n, p.told(s, 4), lies[n][s]);
    }
  }

  void promise08_noSuchStone() {
    says("BEYOND: no such STONE, or another what.");
    for (int s : new int[] {-1, 5, 20, MIN, MAX}) {
      for (int what = 0; what < 5; what++) {
        int asked = what;
        refused("told(" + s + ", " + what + ")", Sentences::told, p -> p.told(s, asked), BEYOND);
      }
    }
    refused("told(0, 4) of none", Sentences::plain, p -> p.told(0, 4), BEYOND);
    is("told(19, 1) of twenty", full().told(19, 1), 19);
  }

  void promise08_anotherWhat() {
    says("BEYOND: no such STONE, or another what.");
    for (int what : new int[] {-1, 5, MIN, MAX}) {
      refused("told(0, " + what + ")", Sentences::told, p -> p.told(0, what), BEYOND);
    }
  }
}
