/** Promises 18 to 24. */
final class HeightsSentences extends Sentences {
  private static final String NOT_WHOLE = "KIND: THE FLOOR is not WHOLE.";
  private static final String NO_POINT = "NONE: there is none IN HAND, or no such POINT.";
  private static final String NO_LAYING = "BEYOND: there is no such LAYING (either).";
  private static final int[] OUTSIDE = {-1, 11, MIN, MAX};

  HeightsSentences(Due due) { super(due); }

  /** Floors that are not WHOLE: of no FIELDS, in two pieces, with a hole, GLUED, INLAID. */
  private static Made[] notWhole() {
    return new Made[] {
      ParquetLayer::new,
      () -> laid(new ParquetLayer(), 0),
      () -> laid(floor(0b11011), 0),
      Sentences::ring,
      () -> laid(glued(1), 1),
      () -> laid(glued(2), 1),
      Sentences::told,
    };
  }

  private static ParquetLayer glued(int kind) {
    ParquetLayer p = floor(15, 15);
    p.stone(kind, 0, ALONG, colourOf(kind));
    return p;
  }

  private static ParquetLayer noLaying() { return floor(7, 7, 7); }

  void promise18_eachPointOfTheGrid() {
    says("HEIGHT of a POINT in THE LAYING IN HAND.");
    ParquetLayer p = laid(wholeGrid(), 0);
    // all ALONG: around each pair of columns the way is free, 1 and -1 by turns
    for (int y = 0; y <= 8; y++) {
      for (int x = 0; x <= 8; x++) {
        int column = y % 2;
        int want = x % 2 == 0 ? column : column == 0 ? -1 : 2;
        is("height(" + x + ", " + y + ")", p.height(x, y), want);
      }
    }
  }

  void promise18_theFirstPointIs0() {
    says("HEIGHT of a POINT in THE LAYING IN HAND.");
    askedOnly("at the corner", Sentences::plain, p -> p.height(0, 0), 0);
    askedOnly("of a field in the last row", () -> laid(floor(0, 0, 0, 0, 0, 0, 0, 24), 0), p -> p.height(3, 7), 0);
    // the least y counts ahead of the least x
    ParquetLayer p = laid(floor(0, 4, 7, 3), 0);
    is("height(2, 1)", p.height(2, 1), 0);
    is("height(0, 2)", p.height(0, 2), -1);
  }

  void promise18_notWhole() {
    says(NOT_WHOLE);
    for (Made made : notWhole()) {
      refused("height(0, 0)", made, p -> p.height(0, 0), KIND);
      refused("height(-1, 9)", made, p -> p.height(-1, 9), KIND);
    }
  }

  void promise18_noneInHand() {
    says(NO_POINT);
    refused("height(0, 0)", Sentences::withoutHand, p -> p.height(0, 0), NONE);
    refused("height(9, 9)", Sentences::withoutHand, p -> p.height(9, 9), NONE);
    refused("of no LAYING", HeightsSentences::noLaying, p -> p.height(0, 0), NONE);
  }

  void promise18_noSuchPoint() {
    says(NO_POINT);
    int[][] points = {{5, 0}, {0, 4}, {5, 4}, {8, 8}, {-1, 0}, {0, -1}, {9, 0}, {0, 9}, {MIN, 0}, {0, MAX}, {MAX, MIN}};
    for (int[] at : points) {
      refused("height(" + at[0] + ", " + at[1] + ")", Sentences::plain, p -> p.height(at[0], at[1]), NONE);
    }
    int[][] beyond = {{-1, 0}, {9, 0}, {0, -1}, {0, 9}, {-1, 9}, {9, 8}, {8, 9}};
    for (int[] at : beyond) {
      refused("of the grid", () -> laid(wholeGrid(), 0), p -> p.height(at[0], at[1]), NONE);
    }
  }

  void promise18_cornersOfTheFloorAreItsPoints() {
    says(NO_POINT);
    ParquetLayer p = laid(floor(0, 0, 0, 24), 0);
    for (int y = 0; y <= 8; y++) {
      for (int x = 0; x <= 8; x++) {
        boolean point = x >= 3 && x <= 5 && (y == 3 || y == 4);
        is("height(" + x + ", " + y + ")", p.height(x, y) > -99999 ? 1 : 0, point ? 1 : 0);
      }
    }
  }

  void promise19_theOnlyLaying() {
    says("The number of THE LOWEST LAYING (highest: of THE HIGHEST).");
    askedOnly("lowest", () -> floor(15), p -> p.extreme(false), 0);
    askedOnly("highest", () -> floor(15), p -> p.extreme(true), 0);
  }

  void promise19_theGrid() {
    says("The number of THE LOWEST LAYING (highest: of THE HIGHEST).");
    askedOnly("lowest", () -> laid(wholeGrid(), 5), p -> p.extreme(false), 6771437);
    askedOnly("highest", () -> laid(wholeGrid(), 5), p -> p.extreme(true), 711201);
  }

  void promise19_aWindingFloor() {
    says("The number of THE LOWEST LAYING (highest: of THE HIGHEST).");
    ParquetLayer p = floor(255, 255, 192, 255, 255, 3, 255, 255);
    int low = p.extreme(false);
    int high = p.extreme(true);
    int total = p.count();
    for (int n = 0; n < total; n += 1 + total / 100) {
      is("meet with the lowest", p.meet(n, low, false), low);
      is("join with the highest", p.meet(n, high, true), high);
    }
  }

  void promise19_notWhole() {
    says(NOT_WHOLE);
    for (Made made : notWhole()) {
      refused("extreme(false)", made, p -> p.extreme(false), KIND);
      refused("extreme(true)", made, p -> p.extreme(true), KIND);
    }
  }

  void promise19_noLaying() {
    says("NONE: there is no LAYING.");
    refused("extreme(false)", HeightsSentences::noLaying, p -> p.extreme(false), NONE);
    refused("extreme(true)", HeightsSentences::noLaying, p -> p.extreme(true), NONE);
    refused("of one FIELD", () -> floor(1), p -> p.extreme(true), NONE);
    refused("of as many DARK as LIGHT ones", HeightsSentences::forks, p -> p.extreme(false), NONE);
  }

  /** WHOLE, 5 DARK and 5 LIGHT FIELDS, but two LIGHT ends hang on 9 and two DARK ones on 14. */
  private static ParquetLayer forks() { return floor(0b01000010, 0b11111111); }

  void promise20_noneApart() {
    says("APART.");
    for (int n = 0; n < 11; n++) {
      int number = n;
      askedOnly("apart(" + n + ", " + n + ")", Sentences::plain, p -> p.apart(number, number), 0);
    }
    is("of the only one", floor(15).apart(0, 0), 0);
  }

  void promise20_asFarAsCanBe() {
    says("APART.");
    askedOnly("the extremes of the grid", Sentences::wholeGrid, p -> p.apart(6771437, 711201), 84);
    askedOnly("the other way", Sentences::wholeGrid, p -> p.apart(711201, 6771437), 84);
    // of squares of 2 n by 2 n FIELDS: n (4 n n - 1) / 3
    for (int n = 1; n <= 4; n++) {
      ParquetLayer p = new ParquetLayer();
      for (int y = 0; y < 2 * n; y++) p.row(y, (1 << 2 * n) - 1);
      is("of a square", p.apart(p.extreme(true), p.extreme(false)), n * (4 * n * n - 1) / 3);
    }
  }

  void promise20_eachTurnIsOneApart() {
    says("APART.");
    ParquetLayer p = floor(15, 15, 15);
    for (int n = 0; n < 11; n++) {
      for (int f = 0; f < 12; f++) {
        p.lay(n);
        int then = f % 8 == 7 ? NONE : p.turn(f);
        if (then >= 0) is("after turn(" + f + ") of " + n, p.apart(n, then), 1);
      }
    }
  }

  void promise20_notWhole() {
    says(NOT_WHOLE);
    for (Made made : notWhole()) {
      refused("apart(0, 0)", made, p -> p.apart(0, 0), KIND);
      refused("apart(-1, MAX)", made, p -> p.apart(-1, MAX), KIND);
    }
  }

  void promise20_noSuchLaying() {
    says(NO_LAYING);
    for (int n : OUTSIDE) {
      refused("apart(" + n + ", 0)", Sentences::plain, p -> p.apart(n, 0), BEYOND);
      refused("apart(0, " + n + ")", Sentences::plain, p -> p.apart(0, n), BEYOND);
      refused("apart(" + n + ", " + n + ")", Sentences::plain, p -> p.apart(n, n), BEYOND);
    }
    refused("of no LAYING", HeightsSentences::noLaying, p -> p.apart(0, 0), BEYOND);
    is("the last one", plain().apart(10, 10), 0);
  }

  void promise21_firstAndLastStep() {
    says("The FIELD of step i (from 0 on) of THE WAY from one LAYING to another one.");
    askedOnly("first", Sentences::plain, p -> p.step(0, 10, 0), 0);
    askedOnly("last", Sentences::plain, p -> p.step(0, 10, 1), 2);
    ParquetLayer p = laid(wholeGrid(), 711201);
    is("first of 84", p.turn(p.step(711201, 6771437, 0)) < 0 ? 0 : 1, 1);
    is("one less", p.apart(p.rank(), 6771437), 83);
  }

  void promise21_theLongestWay() {
    says("The FIELD of step i (from 0 on) of THE WAY from one LAYING to another one.");
    ParquetLayer p = laid(wholeGrid(), 6771437);
    for (int i = 0; i < 84; i++) p.turn(p.step(6771437, 711201, i));
    is("there", p.rank(), 711201);
  }

  void promise21_waysAllThrough() {
    says("The FIELD of step i (from 0 on) of THE WAY from one LAYING to another one.");
    for (int from : new int[] {6771437, 711201, 0}) {
      for (int to = 1000003; to < 12988816; to += 1200007) {
        ParquetLayer p = laid(wholeGrid(), from);
        int far = p.apart(from, to);
        for (int i = 0; i < far; i++) is("nearer", p.apart(p.turn(p.step(from, to, i)), to), far - i - 1);
        is("there", p.rank(), to);
        is("no further", p.step(from, to, far), NONE);
      }
    }
  }

  void promise21_notWhole() {
    says("KIND.");
    for (Made made : notWhole()) {
      refused("step(0, 0, 0)", made, p -> p.step(0, 0, 0), KIND);
      refused("step(-1, MAX, -1)", made, p -> p.step(-1, MAX, -1), KIND);
    }
  }

  void promise21_noSuchLaying() {
    says(NO_LAYING);
    for (int n : OUTSIDE) {
      refused("step(" + n + ", 0, 0)", Sentences::plain, p -> p.step(n, 0, 0), BEYOND);
      refused("step(0, " + n + ", 0)", Sentences::plain, p -> p.step(0, n, 0), BEYOND);
      refused("step(0, " + n + ", -1)", Sentences::plain, p -> p.step(0, n, -1), BEYOND);
    }
    refused("of no LAYING", HeightsSentences::noLaying, p -> p.step(0, 0, 0), BEYOND);
  }

  void promise21_noSuchStep() {
    says("NONE: there is no such step.");
    for (int i : new int[] {-1, 2, 3, MIN, MAX}) {
      refused("step(0, 10, " + i + ")", Sentences::plain, p -> p.step(0, 10, i), NONE);
    }
    for (int i : new int[] {-1, 0, 1}) refused("step(4, 4, " + i + ")", Sentences::plain, p -> p.step(4, 4, i), NONE);
    refused("of the grid", Sentences::wholeGrid, p -> p.step(6771437, 711201, 84), NONE);
    is("the last of the grid", wholeGrid().step(6771437, 711201, 83) < 0 ? 0 : 1, 1);
  }

  void promise22_ofOneAndTheSame() {
    says("The number of MEET of two LAYINGS (join: of JOIN).");
    for (int n = 0; n < 11; n++) {
      int number = n;
      askedOnly("meet(" + n + ", " + n + ")", Sentences::plain, p -> p.meet(number, number, false), n);
      askedOnly("join(" + n + ", " + n + ")", Sentences::plain, p -> p.meet(number, number, true), n);
    }
  }

  void promise22_ofTheExtremes() {
    says("The number of MEET of two LAYINGS (join: of JOIN).");
    askedOnly("meet", Sentences::wholeGrid, p -> p.meet(711201, 6771437, false), 6771437);
    askedOnly("join", Sentences::wholeGrid, p -> p.meet(711201, 6771437, true), 711201);
  }

  void promise22_ofNeitherAboveTheOther() {
    says("The number of MEET of two LAYINGS (join: of JOIN).");
    // 1 has the right pair turned, 3 the left one; 0 neither, 4 both
    askedOnly("meet", () -> floor(15, 15), p -> p.meet(1, 3, false), 4);
    askedOnly("join", () -> floor(15, 15), p -> p.meet(1, 3, true), 0);
    askedOnly("meet, the other way", () -> floor(15, 15), p -> p.meet(3, 1, false), 4);
    askedOnly("join, the other way", () -> floor(15, 15), p -> p.meet(3, 1, true), 0);
  }

  void promise22_notWhole() {
    says("KIND.");
    for (Made made : notWhole()) {
      refused("meet(0, 0, false)", made, p -> p.meet(0, 0, false), KIND);
      refused("meet(-1, MAX, true)", made, p -> p.meet(-1, MAX, true), KIND);
    }
  }

  void promise22_noSuchLaying() {
    says(NO_LAYING);
    for (int n : OUTSIDE) {
      refused("meet(" + n + ", 0)", Sentences::plain, p -> p.meet(n, 0, false), BEYOND);
      refused("meet(0, " + n + ")", Sentences::plain, p -> p.meet(0, n, false), BEYOND);
      refused("join(" + n + ", 0)", Sentences::plain, p -> p.meet(n, 0, true), BEYOND);
      refused("join(0, " + n + ")", Sentences::plain, p -> p.meet(0, n, true), BEYOND);
    }
    refused("of no LAYING", HeightsSentences::noLaying, p -> p.meet(0, 0, true), BEYOND);
  }

  void promise23_noneLeft() {
    says("LACK.");
    askedOnly("of no FIELDS", ParquetLayer::new, ParquetLayer::lack, 0);
    askedOnly("of the grid", Sentences::wholeGrid, ParquetLayer::lack, 0);
    askedOnly("of one LIGHT FIELD", () -> floor(2), ParquetLayer::lack, 0);
    askedOnly("of LIGHT FIELDS alone", () -> floor(170, 85, 170, 85, 170, 85, 170, 85), ParquetLayer::lack, 0);
  }

  void promise23_allLeft() {
    says("LACK.");
    askedOnly("of one DARK FIELD", () -> floor(1), ParquetLayer::lack, 1);
    askedOnly("of DARK FIELDS alone", () -> floor(85, 170, 85, 170, 85, 170, 85, 170), ParquetLayer::lack, 32);
  }

  void promise23_asManyDarkAsLightOnes() {
    says("LACK.");
    is("apart", floor(0b1001).lack(), 1);
    is("forks", forks().lack(), 1);
  }

  void promise23_gluedOrNot() {
    says("LACK.");
    ParquetLayer p = floor(15);
    p.stone(1, 1, ALONG, 0);
    is("count()", p.count(), 0);
    is("lack()", p.lack(), 0);
  }

  void promise24_onlyDarkFieldsOfTheFloor() {
    says("Whether a FIELD is LACKING: 1, 0.");
    for (int f = 0; f < 64; f++) {
      int asked = f;
      boolean lacking = f / 8 < 3 && f % 8 < 3 && (f % 8 + f / 8) % 2 == 0;
      askedOnly("lacking(" + f + ")", HeightsSentences::noLaying, p -> p.lacking(asked), lacking ? 1 : 0);
    }
  }

  void promise24_noneOrAll() {
    says("Whether a FIELD is LACKING: 1, 0.");
    ParquetLayer grid = wholeGrid();
    ParquetLayer dark = floor(85, 170, 85, 170, 85, 170, 85, 170);
    for (int f = 0; f < 64; f++) {
      is("of the grid", grid.lacking(f), 0);
      is("of DARK FIELDS alone", dark.lacking(f), (f % 8 + f / 8) % 2 == 0 ? 1 : 0);
      is("of no FIELDS", new ParquetLayer().lacking(f), 0);
    }
  }

  void promise24_someOnly() {
    says("Whether a FIELD is LACKING: 1, 0.");
    // 0 and 2 share one LIGHT FIELD; 4 and 5 are covered whatever is left
    ParquetLayer p = floor(0b110111);
    int[] want = {1, 0, 1, 0, 0, 0, 0, 0};
    for (int x = 0; x < 8; x++) is("lacking(" + x + ")", p.lacking(x), want[x]);
    ParquetLayer q = forks();
    for (int f = 0; f < 16; f++) is("of forks: lacking(" + f + ")", q.lacking(f), f == 6 || f == 15 ? 1 : 0);
  }

  void promise24_noSuchField() {
    says("BEYOND.");
    for (int f : new int[] {-1, 64, MIN, MAX}) {
      refused("lacking(" + f + ")", Sentences::told, p -> p.lacking(f), BEYOND);
    }
  }
}
