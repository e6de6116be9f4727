import java.util.ArrayList;
import java.util.Arrays;
import java.util.List;

/**
 * Tests of the document, sentence by sentence. A method whose name begins with "promise" and two
 * digits, or with "terms" and one, is one test; it first quotes the sentence that it is for.
 */
abstract class Sentences {
  static final int BEYOND = -100001;
  static final int MISSING = -100002;
  static final int SIZE = -100003;
  static final int KIND = -100004;
  static final int FULL = -100005;
  static final int NONE = -100006;
  static final int TWICE = -100007;
  static final int MIN = Integer.MIN_VALUE;
  static final int MAX = Integer.MAX_VALUE;
  static final boolean ALONG = false;
  static final boolean ACROSS = true;

  /** A call on an object. */
  interface Act { int on(ParquetLayer p); }

  /** Makes the same object again and again. */
  interface Made { ParquetLayer make(); }

  private final Due due;
  private String test = "";
  private int asked;
  private final List<String> quoted = new ArrayList<>();

  Sentences(Due due) { this.due = due; }

  void begin(String name) {
    test = name;
    asked = 0;
    quoted.clear();
  }

  int asked() { return asked; }

  List<String> quoted() { return quoted; }

  void says(String sentence) { quoted.add(sentence); }

  void is(String call, int got, int want) {
    asked++;
    due.is(test + ": " + call, got, want);
  }

  void holds(String what, boolean yes) { is(what, yes ? 1 : 0, 1); }

  /** The call answers a finding, counts it, and changes nothing else. */
  void refused(String call, Made made, Act act, int finding) {
    ParquetLayer p = made.make();
    int before = p.all(3);
    is(call, act.on(p), finding);
    is(call + ", the finding counted", p.all(3), before + 1);
    unchanged(call, made, act);
  }

  /** The call answers, no finding is counted, and nothing changes. */
  void askedOnly(String call, Made made, Act act, int want) {
    ParquetLayer p = made.make();
    int before = p.all(3);
    is(call, act.on(p), want);
    is(call + ", no finding counted", p.all(3), before);
    unchanged(call, made, act);
  }

  private void unchanged(String call, Made made, Act act) {
    int[] then = State.of(made);
    int[] now = State.of(() -> {
      ParquetLayer p = made.make();
      act.on(p);
      return p;
    });
    holds(call + ", nothing changed", Arrays.equals(then, now));
  }

  /** A floor of rows from 0 on. */
  static ParquetLayer floor(int... rows) {
    ParquetLayer p = new ParquetLayer();
    for (int y = 0; y < rows.length; y++) p.row(y, rows[y]);
    return p;
  }

  static ParquetLayer wholeGrid() { return floor(255, 255, 255, 255, 255, 255, 255, 255); }

  static ParquetLayer laid(ParquetLayer p, int number) {
    p.lay(number);
    return p;
  }

  /** A wrong COUNT must not make a test run for hours. */
  static int few(int count) { return Math.min(count, 1000); }

  /** A COLOUR that fits a kind. */
  static int colourOf(int kind) { return kind == 2 ? 7 : 0; }

  static ParquetLayer withoutHand() { return floor(15, 15, 15); }

  /** 3 rows of 4 FIELDS (11 LAYINGS), all sorts of sheets, a LAYING IN HAND, three acts to undo. */
  static ParquetLayer plain() {
    ParquetLayer p = floor(15, 15, 15);
    sheets(p);
    p.lay(3);
    return p;
  }

  /** 4 rows of 6 FIELDS with a STONE of each kind, sheets, a LAYING IN HAND, nine acts to undo. */
  static ParquetLayer told() {
    ParquetLayer p = floor(63, 63, 63, 63);
    sheets(p);
    p.lay(5);
    p.stone(0, 2, ACROSS, 0);
    p.stone(1, 0, ALONG, 0);
    p.stone(2, 26, ALONG, 42);
    p.stone(3, 8, ACROSS, 0);
    p.lay(2);
    p.stone(0, 2, ACROSS, 0);
    p.lay(1);
    return p;
  }

  /** 5 rows of 8 FIELDS with twenty STONES, one of them GLUED. */
  static ParquetLayer full() {
    ParquetLayer p = floor(255, 255, 255, 255, 255);
    p.stone(1, 0, ALONG, 0);
    for (int i = 1; i < 20; i++) p.stone(0, i, ACROSS, 0);
    p.lay(7);
    return p;
  }

  /** A ring: one piece, two LAYINGS, but not WHOLE. */
  static ParquetLayer ring() {
    ParquetLayer p = floor(7, 5, 7);
    p.lay(1);
    return p;
  }

  /** Sheet 0: 8 numbers of 8 bits; 1: 16 of 16; 2: 3 of 32; 3 is MISSING. */
  private static void sheets(ParquetLayer p) {
    p.sheet(0, 8, 8);
    p.sheet(1, 16, 16);
    p.sheet(2, 32, 3);
    for (int i = 0; i < 8; i++) p.put(0, i, 1 << i);
    for (int i = 0; i < 16; i++) p.put(1, i, 3 * i + 1);
    for (int i = 0; i < 3; i++) p.put(2, i, 255);
  }
}
