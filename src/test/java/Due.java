/** Counts answers, prints those that are not the ones due, and ends the test. */
final class Due {
  private int wrong = 0;
  private int all = 0;

  void is(String what, int got, int want) {
    all++;
    if (got == want) return;
    wrong++;
    System.out.println(what + " answered " + got + ", due is " + want);
  }

  void isTrue(String what, boolean got) {
    is(what, got ? 1 : 0, 1);
  }

  void end(String name) {
    System.out.println(name + ": " + all + " answers, " + wrong + " not as due");
    if (wrong != 0) System.exit(1);
  }
}
