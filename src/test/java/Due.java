/** Counts the answers that are not the ones that are due, and prints them. */
final class Due {
  private int asked = 0;
  private int wrong = 0;

  void is(String what, int got, int due) {
    asked++;
    if (got != due) {
      wrong++;
      System.out.println(what + " answered " + got + ", due is " + due);
    }
  }

  void holds(String what, boolean true_) {
    is(what, true_ ? 1 : 0, 1);
  }

  void end() {
    System.out.println(asked + " answers, " + wrong + " wrong");
    if (wrong != 0) System.exit(1);
  }
}
