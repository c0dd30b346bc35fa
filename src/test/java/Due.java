import java.util.function.Supplier;

/** Counts answers, prints those that are not the ones due, and ends the test. */
final class Due {
  /** A class that is wrong at its root would else print a line for each of millions of answers. */
  private static final int MOST_PRINTED = 200;

  private int wrong = 0;
  private int all = 0;

  void is(String what, int got, int want) {
    all++;
    if (got == want) return;
    wrong++;
    if (wrong > MOST_PRINTED) return;
    System.out.println(what + " answered " + got + ", due is " + want);
  }

  /** For answers so many that the text of each would cost more than the call. */
  void is(Supplier<String> what, int got, int want) {
    if (got == want) all++;
    else is(what.get(), got, want);
  }

  void isTrue(String what, boolean got) {
    is(what, got ? 1 : 0, 1);
  }

  void end(String name) {
    System.out.println(name + ": " + all + " answers, " + wrong + " not as due");
    if (wrong != 0) System.exit(1);
  }
}
