/** Part 3 of the terms, step by step: when each thing is due, just before and just behind it. */
final class SecondBounds {
  private static final int NONE = Crossings.NONE;
  private static final int RED = 0, GREEN = 1, AMBER = 2;
  private static final String PART = "part 3";
  private static final String TWO_RESTS = "phase 4 x2; stage 0 - - -; stage 1 - - -;";
  private static final String CAR_AND_REST = "phase 0; phase 4; stage 0 - - -; stage 1 - - -;";

  private final Sentences due;

  private SecondBounds(Sentences due) {
    this.due = due;
  }

  static void all(Sentences due) {
    SecondBounds bounds = new SecondBounds(due);
    bounds.firstSecond();
    bounds.orders();
    bounds.reading();
    bounds.readingInAFault();
    bounds.wanted();
    bounds.leastOrMore();
    bounds.greatestOrMore();
    bounds.hurriedOrNotHeld();
    bounds.tableOfB();
    bounds.ending();
    bounds.free();
    bounds.ambers();
    bounds.next();
    bounds.goingRound();
    bounds.beginning();
    bounds.member();
    bounds.gap();
    bounds.gapPlaces();
    bounds.gapFindings();
  }

  private Run run(String text) {
    return new Run(due, text);
  }

  private void firstSecond() {
    due.says(PART, "A SECOND. The first one is 0; NOW is how many there were.");
    run("phase 4 x3").is("count 0", 0).make("ask 0").is("told 0 8", 0).make("second 0; ask 1")
        .is("told 1 8", 0).make("second 1; ask 2").is("count 0", 1).is("told 2 8", 1);
    run("alarm; second 1").is("fault 1", 0).is("count 0", 1);
    run("second 1; alarm; second 1").is("fault 1", 1).is("count 0", 2);
    run("second 4 x510").is("second 4", 4).is("count 0", 4 * 511);
    due.says(PART, "In SECOND T, one behind the other:");
    // An order of T counts for a stage that begins in T, and its AMBER for one that ends in T.
    run(TWO_RESTS + "table 0 1 1 9 0; table 0 1 1 2 1; ask 0; ask 1; second 2").is("told 0 6", 3);
    run(TWO_RESTS + "table 0 1 1 9 0; table 0 1 1 2 2; ask 0; ask 1; second 2").is("told 0 6", 10);
  }

  private void orders() {
    due.says(PART,
        "(a) ORDERS told for T are done, in the order in which they were told, and are gone.");
    run("phase 0; table 0 3 3 3 1; table 0 4 4 4 1; table 0 6 6 6 0; table 0 7 7 7 2; second 1")
        .is("told 0 9", 6).is("count 9", 3).make("second 1").is("told 0 9", 4).is("count 9", 1)
        .make("second 1").is("told 0 9", 7).is("count 9", 0).make("second 4").is("told 0 9", 7);
    run("phase 0; table 0 4 4 4 1; table 0 3 3 3 1; second 2").is("told 0 9", 3).is("count 9", 0);
    run("phase 0 x2; table 0 1 2 3 0 x8; table 1 4 5 6 0 x8; second 1").is("count 9", 0)
        .is("told 0 10", 2).is("told 1 10", 5);
    run("phase 0; table 0 6 6 6 2; alarm; second 1; second 1").is("told 0 9", 5).make("second 1")
        .is("told 0 9", 6).is("count 9", 0);
  }

  private void reading() {
    due.says(PART, "(b) If there is no FAULT: all PHASES by number: one that is GREEN is READ:"
        + " whether it HOLDS;");
    run("phase 0 x3; second 1").is("finding 1", 2).is("count 1", 3);
    run("phase 0 x3; detector 0; stage 0 2 - -; second 1").is("finding 0", 1).is("finding 1", 2)
        .make("second 1").is("count 2", 2).is("count 1", 3).is("finding 1", 2);
    run("phase 0; stage 0 - - -; detector 0; passing 0 1 0 x3; second 3").is("light 0", GREEN)
        .is("trace", 1 + 5 + 5).is("told 0 8", NONE);
    due.says(PART, "of the others those that are not ASKED (and no REST) are READ:"
        + " one that ASKS is ASKED since T.");
    run("phase 0; detector 0; passing 0 0 0; passing 0 1 0 x2; second 1").is("told 0 8", NONE)
        .make("second 1").is("told 0 8", 1).is("trace", 2).make("second 1").is("told 0 8", 1)
        .is("trace", 2).make("second 4").is("finding 0", 0);
    run("phase 0; ask 0; second 4").is("told 0 8", 0).is("finding 0", 0);
    run("phase 4; second 4").is("told 0 8", NONE).is("finding 0; trace", 0);
    run(CAR_AND_REST + "detector 0; passing 0 1 0 x2; passing 0 0 0 x2; table 0 1 1 9 0; ask 1;"
        + "second 2").is("light 0", AMBER).is("trace", 1 + 5).make("second 1")
        .is("trace", 1 + 5 + 1 + 5000);
  }

  private void readingInAFault() {
    due.says(PART, "Then pairs are looked at (part 4).");
    String rows = "phase 0 x2; detector 0; detector 1; passing 0 1 0 x3; passing 1 0 0 x3;";
    run(rows + "pair 0 1 1; second 1").is("fault 0", 2).is("told 0 8", 0).is("trace", 2)
        .make("second 4").is("trace", 2).is("finding 0", 0);
    run(rows + "pair 0 1 1; second 1; restore; second 1").is("fault 1", 1).is("trace", 3);
  }

  private void wanted() {
    due.says(PART, "(c) If a FAULT is met then: part 4.");
    run(TWO_RESTS + "table 0 1 1 2 0; ask 0; second 1; ask 1; alarm; second 1").is("light 0", RED)
        .is("told 0 6", 1).is("light 1", RED);
    due.says(PART, "Else, if a STAGE is GREEN (since B) and another one is WANTED:");
    run(TWO_RESTS + "table 0 1 1 0 0; ask 0; second 4 x6").is("light 0", GREEN)
        .is("stageOf 3", 24).make("ask 1; second 1").is("light 0", RED).is("light 1", GREEN);
    run(TWO_RESTS + "table 0 1 1 0 0; ask 0; second 4 x6; hurry 1; second 1").is("light 0", RED);
    run(TWO_RESTS + "table 0 1 1 0 0; ask 0; second 4; hurry 0; ask 0; second 4").is("light 0", GREEN);
    due.says(PART, "WANTED is a STAGE that has an ASKED PHASE, or is HURRIED.");
    String three = "phase 4 x4; stage 0 - - -; stage 0 1 - -; stage 2 - - -; table 0 1 1 0 0; ask 0;"
        + "second 1;";
    run(three).is("stageOf 0", 0).is("stageOf 1", NONE).make("ask 3").is("stageOf 1", NONE)
        .make("second 2").is("stageOf 0", 0).make("ask 1").is("stageOf 1", 1).make("second 1")
        .is("stageOf 0", 1);
    run(three + "hurry 1").is("stageOf 1", 1).make("second 1").is("stageOf 0", 1);
    run(three + "hurry 2; ask 1").is("stageOf 1", 2).make("second 1").is("stageOf 0", 2);
  }

  /** Stage 0 is green since 0, of a car that holds in no second; stage 1 is asked. */
  private Run notHeld(int least) {
    return run(CAR_AND_REST + "detector 0; passing 0 0 0 x62; table 0 " + least
        + " 120 3 0; ask 0; ask 1; second 1");
  }

  private void leastOrMore() {
    due.says(PART, "it ENDS, if T less B is its LEAST or more, and one of these is so:");
    notHeld(1).is("light 0", GREEN).make("second 1").is("light 0", AMBER);
    notHeld(2).make("second 1").is("light 0", GREEN).make("second 1").is("light 0", AMBER);
    notHeld(60).make("second 4 x14; second 3").is("count 0", 60).is("light 0", GREEN)
        .make("second 1").is("light 0", AMBER);
    // Wanted only later: LEAST is long over, and it ends at once.
    run(CAR_AND_REST + "detector 0; passing 0 0 0 x20; ask 0; second 4 x3").is("light 0", GREEN)
        .make("ask 1; second 1").is("light 0", AMBER).is("told 0 6", 12 + 3);
  }

  /** Stage 0 is green since 0 and holds, stage 1 is asked. */
  private Run held(int least, int greatest) {
    return run(TWO_RESTS + "table 0 " + least + " " + greatest + " 3 0; ask 0; ask 1; second 1");
  }

  private void greatestOrMore() {
    due.says(PART, "T less B is its GREATEST or more;");
    held(1, 1).is("light 0", GREEN).make("second 1").is("light 0", AMBER);
    held(1, 2).make("second 1").is("light 0", GREEN).make("second 1").is("light 0", AMBER);
    held(1, 119).make("second 4 x29; second 2").is("light 0", GREEN).make("second 1").is("light 0", AMBER);
    held(60, 120).make("second 4 x29; second 3").is("count 0", 120).is("light 0", GREEN)
        .make("second 1").is("light 0", AMBER).is("told 0 6", 123);
    run(TWO_RESTS + "table 0 1 3 3 0; ask 0; second 4 x5; ask 1; second 1").is("light 0", AMBER);
  }

  private void hurriedOrNotHeld() {
    due.says(PART, "a STAGE is HURRIED;");
    held(1, 60).make("hurry 1; second 1").is("light 0", AMBER);
    held(2, 60).make("hurry 1; second 1").is("light 0", GREEN).make("second 1").is("light 0", AMBER);
    held(2, 60).make("second 1; hurry 1").is("light 0", GREEN).make("second 1").is("light 0", AMBER);
    held(2, 60).make("second 4").is("light 0", GREEN);
    due.says(PART, "none of its PHASES HOLDS.");
    String both = "phase 0 x2; phase 4; stage 0 - - 1; stage 2 - - -; detector 0; detector 1;"
        + "table 0 1 60 3 0; table 1 1 60 3 0; ask 0; ask 1; ask 2;";
    run(both + "passing 0 0 0; passing 0 1 0 x2; passing 0 0 0; passing 1 0 0 x4; second 3")
        .is("light 0; light 1", GREEN).make("second 1").is("light 0; light 1", AMBER);
    run(both + "passing 1 0 0; passing 1 1 0 x2; passing 1 0 0; passing 0 0 0 x4; second 3")
        .is("light 0; light 1", GREEN).make("second 1").is("light 0; light 1", AMBER);
    run(both + "passing 1 0 0 x4; passing 0 0 0 x4; second 2").is("light 0; light 1", AMBER);
    // That it held in the second before does not count.
    run(CAR_AND_REST + "detector 0; passing 0 1 0 x4; passing 0 0 0; table 0 1 60 3 0; ask 1; second 4")
        .is("light 0", GREEN).make("second 1").is("light 0", AMBER);
  }

  private void tableOfB() {
    due.says(PART, "(LEAST and GREATEST are as THE TABLE was in SECOND B.)");
    String greens = "ask 0; ask 1; second 1;";
    run(TWO_RESTS + "table 0 1 3 0 0; table 0 1 1 0 1;" + greens + "second 2").is("light 0", GREEN)
        .is("told 0 10", 1).make("second 1").is("light 0", RED);
    run(TWO_RESTS + "table 0 1 1 0 0; table 0 3 3 0 1;" + greens + "second 1").is("light 0", RED);
    run(TWO_RESTS + "table 0 2 9 0 0; table 0 4 9 0 1; hurry 0;" + greens + "hurry 1; second 1")
        .is("light 0", GREEN).make("second 1").is("light 0", RED);
    run(TWO_RESTS + "table 0 3 9 0 0; table 0 1 9 0 1; hurry 0;" + greens + "hurry 1; second 2")
        .is("light 0", GREEN).make("second 1").is("light 0", RED);
    // The next green of the same stage takes the table as it is then.
    run(TWO_RESTS + "table 0 1 3 0 0; table 1 1 1 0 0; table 0 1 1 0 1;" + greens
        + "second 3; ask 0; second 1").is("light 0", GREEN).make("ask 1; second 1").is("light 0", RED);
  }

  private void ending() {
    due.says(PART, "ENDING: by places: a PHASE is AMBER (RED, if its AMBER is 0)"
        + " and ENDS in T and its AMBER;");
    String green = "ask 0; ask 1; second 2";
    run(TWO_RESTS + "table 0 1 1 0 0;" + green).is("light 0", RED).is("told 0 6", 1).is("told 0 2", 2);
    run(TWO_RESTS + "table 0 1 1 1 0;" + green).is("light 0", AMBER).is("told 0 6", 2);
    run(TWO_RESTS + "table 0 1 1 9 0;" + green).is("light 0", AMBER).is("told 0 6", 10);
    String stages = "; stage 2 - - -; table 0 1 1 0 0; table 1 1 1 1 0; ask 0; ask 2; second 2";
    run("phase 0 x2; phase 4; stage 1 - - 0" + stages).is("light 0", RED).is("light 1", AMBER)
        .is("finding 0", 1).is("finding 1", 0);
    run("phase 0 x2; phase 4; stage - 0 1 -" + stages).is("finding 1", 1);
  }

  private void free() {
    due.says(PART, "of each other one that CONFLICTS with it FREE is at least that and the CLEARING"
        + " from it to that one (FREE of a PHASE is 0 at first).");
    String four = "phase 4 x4; stage 0 1 - -; stage 2 - - -;";
    String green = "; ask 0; ask 2; second 2";
    run(four).is("told 0 7; told 1 7; told 2 7; told 3 7", 0);
    run(four + "conflict 0 2 6 1; conflict 1 2 3 1; conflict 1 3 0 20; table 0 1 1 1 0;"
        + "table 1 1 1 4 0" + green).is("told 2 7", 8).is("told 3 7", 5).is("told 0 7; told 1 7", 0);
    run(four + "conflict 0 2 5 1; conflict 1 2 3 1; table 0 1 1 1 0; table 1 1 1 4 0" + green)
        .is("told 2 7", 8);
    run(four + "conflict 0 2 6 1; conflict 1 2 2 1; table 0 1 1 1 0; table 1 1 1 4 0" + green)
        .is("told 2 7", 8);
    run(four + "conflict 0 2 0 0; table 0 1 1 0 0; table 1 1 1 0 0" + green).is("told 2 7", 1)
        .is("light 2", GREEN);
    run(four + "table 0 1 1 9 0; table 1 1 1 0 0" + green).is("told 2 7", 0).is("light 2", GREEN);
  }

  private void ambers() {
    due.says(PART, "(d) PHASES that are AMBER and END in T or did before are RED, by number.");
    String green = "ask 0; ask 1; second 2";
    run(TWO_RESTS + "table 0 1 1 1 0;" + green).is("light 0", AMBER).make("second 1").is("light 0", RED);
    run(TWO_RESTS + "table 0 1 1 2 0;" + green + "; second 1").is("light 0", AMBER).make("second 1")
        .is("light 0", RED);
    run(TWO_RESTS + "table 0 1 1 9 0;" + green + "; second 4; second 4").is("count 0", 10)
        .is("light 0", AMBER).make("second 1").is("light 0", RED).is("told 0 6", 10);
    // Several ambers of one stage end one by one.
    run("phase 4 x3; stage 0 1 - -; stage 2 - - -; table 0 1 1 2 0; table 1 1 1 1 0; ask 0; ask 2;"
        + "second 2").is("light 0; light 1", AMBER).make("second 1").is("light 0", AMBER)
        .is("light 1", RED).make("second 1").is("light 0; light 1", RED);
  }

  private void next() {
    due.says(PART, "(e) If no STAGE is GREEN: THE NEXT one is that which is HURRIED;");
    run(TWO_RESTS + "ask 0; hurry 1").is("stageOf 1", 1).make("second 1").is("stageOf 0", 1);
    run(TWO_RESTS + "hurry 1; second 1").is("stageOf 0", 1).is("stageOf 2", NONE);
    // The hurried one waits, and no other one is chosen meanwhile.
    run("phase 4 x3; stage 0 - - -; stage 1 - - -; stage 2 - - -; conflict 0 1 4 4; table 0 1 1 0 0;"
        + "ask 0; second 1; ask 2; hurry 1; second 4").is("stageOf 0", NONE).is("stageOf 1", 1)
        .make("second 1").is("stageOf 0", 1);
    due.says(PART, "else of those WANTED the one that has the PHASE that was ASKED first;");
    String asked = "phase 4 x4; stage 0 - - -; stage 1 3 - -; stage 2 - - -; alarm; second 1;";
    run(asked + "ask 2; second 1; ask 0").is("stageOf 1", 2).make("restore; second 1")
        .is("stageOf 0", 2).is("stageOf 1", 0);
    run(asked + "ask 1; second 1; ask 2; second 1; ask 3; ask 0").is("stageOf 1", 1);
    run(asked + "ask 3; second 1; ask 0; ask 1; ask 2").is("stageOf 1", 1);
    run(asked + "ask 1; second 1; ask 0; restore; second 1").is("stageOf 0", 1);
  }

  /** Six stages; this one was the latest that was green; then a fault, so that none is. */
  private Run latestWas(int stage) {
    return run("phase 4 x6; stage 0 - - -; stage 1 - - -; stage 2 - - -; stage 3 - - -; stage 4 - - -;"
        + "stage 5 - - -; ask " + stage + "; second 1").is("stageOf 0", stage)
        .make("alarm; second 1").is("stageOf 0", NONE);
  }

  private void goingRound() {
    due.says(PART, "of several such the first behind the latest one that was GREEN, going round");
    for (int latest = 0; latest < 6; latest++) {
      Run x = latestWas(latest);
      // From the last one in the round to the first: each that is asked too goes before.
      for (int i = 6; i >= 1; i--) {
        int stage = (latest + i) % 6;
        x.make("ask " + stage).is("stageOf 1", stage);
      }
      x.make("restore; second 1").is("stageOf 0", (latest + 1) % 6);
    }
    run("phase 4; stage 0 - - -; ask 0; second 1; alarm; second 1; restore; ask 0").is("stageOf 1", 0)
        .make("second 1").is("stageOf 0", 0).is("told 0 5", 2);
    due.says(PART, "(at first behind the last of all).");
    run("phase 4 x3; stage 0 - - -; stage 1 - - -; stage 2 - - -; ask 2").is("stageOf 1", 2)
        .make("ask 1").is("stageOf 1", 1).make("ask 0").is("stageOf 1", 0).make("second 1")
        .is("stageOf 0", 0);
    // A fault before any green leaves it so.
    run(TWO_RESTS + "alarm; second 1; ask 1; ask 0").is("stageOf 1", 0);
  }

  private void beginning() {
    due.says(PART, "If all its PHASES are RED and FREE in T or before, it is GREEN since T:");
    String clearing = "conflict 0 1 2 0; table 0 1 1 1 0; ask 0; ask 1; second 2";
    run(TWO_RESTS + clearing).is("told 1 7", 4).make("second 2").is("light 1", RED)
        .is("stageOf 0", NONE).make("second 1").is("light 1", GREEN).is("stageOf 3", 1)
        .make("second 2").is("stageOf 3", 3);
    String shared = "phase 4 x3; stage 0 - - -; stage 1 - 0 -; table 0 1 1 2 0; hurry 0; ask 1;";
    run(shared + "second 2").is("light 0", AMBER).is("light 1", RED).make("second 1")
        .is("light 1", RED).make("second 1").is("light 0; light 1", GREEN);
    due.says(PART, "so are its PHASES, by places, which are not ASKED any more;"
        + " it is not HURRIED any more.");
    run("phase 4 x4; stage 3 - 1 -; ask 1; ask 2; ask 3; hurry 0; second 1")
        .is("light 1; light 3", GREEN).is("light 0; light 2", RED).is("told 1 8; told 3 8", NONE)
        .is("told 2 8", 0).is("stageOf 2", NONE).is("told 1 5; told 3 5", 1).is("told 2 5", 0);
  }

  private void member() {
    due.says(PART, "A PHASE's LIGHT is changed within its MEMBER: that is ENTERED and LEFT once for"
        + " each change told in parts 3 and 4 (also when a FINDING comes in it).");
    Run x = run(TWO_RESTS + "table 0 1 1 1 0; ask 0").is("told 0 2; told 0 3; count 11", 0);
    x.make("second 1; ask 1").is("told 0 2; told 0 3; count 11", 1);
    x.make("second 1").is("told 0 2; told 0 3", 2).is("told 1 2; told 1 3", 1).is("count 11", 3);
    x.make("second 1").is("told 0 2; told 0 3", 3).is("count 11", 4);
    x.make("alarm; second 1").is("told 0 2", 3).is("told 1 2; told 1 3", 2).is("count 11", 5);
    x.make("second 3").is("told 0 2", 4).is("told 1 3", 3).is("count 11", 7);
    x.make("second 4").is("count 11", 7);
    x.make("restore").is("told 0 3", 5).is("told 1 2", 4).is("count 11", 9);
    String found = "table 0 1 1 0 0; ask 0; ask 1; second 2";
    run(CAR_AND_REST + found).is("finding 0", 1).is("told 0 2; told 0 3", 2);
    run(CAR_AND_REST + "detector 0;" + found).is("finding 0", 2).is("told 0 2; told 0 3", 2);
    run(CAR_AND_REST + "detector 0; passing 0 0 0 x2;" + found).is("finding 0", 3)
        .is("told 0 2; told 0 3", 2);
  }

  /** A car with these rows, green since 0; it ends in the second that is told. */
  private Run ended(String rows, int in) {
    return run(CAR_AND_REST + "detector 0;" + rows + "table 0 " + in + " " + in + " 1 0; ask 0; ask 1;"
        + "second 1 x" + (in + 1)).is("light 0", AMBER);
  }

  private void gap() {
    due.says(PART, "When a GREEN ends, its GAP is worked out in there: how many seconds it lasted"
        + " (T less B), divided by the sum of PASSINGS");
    ended("passing 0 1 0 x5;", 4).is("told 0 4", 1).is("finding 0", 0);
    ended("passing 0 1 0 x2; passing 0 0 0 x5;", 5).is("told 0 4", 2);
    ended("passing 0 1 0 x2; passing 0 0 0 x5;", 6).is("told 0 4", 3);
    ended("passing 0 127 0 x9;", 8).is("told 0 4", 0);
    ended("passing 0 1 0; passing 0 0 0 x40;", 40).is("told 0 4", 40);
    due.says(PART, "as they are, also below 0 (cut towards 0; of REST 0);");
    ended("passing 0 -1 0 x2; passing 0 0 0 x5;", 5).is("told 0 4", -2).is("finding 0", 0);
    ended("passing 0 -1 0; passing 0 0 0 x5;", 5).is("told 0 4", -5);
    ended("passing 0 -3 0; passing 0 1 0 x2; passing 0 0 0 x5;", 5).is("told 0 4", -5);
    ended("passing 0 -6 0; passing 0 0 0 x5;", 5).is("told 0 4", 0);
    ended("passing 0 -5 0; passing 0 0 0 x5;", 5).is("told 0 4", -1);
    ended("passing 0 -4 0; passing 0 0 0 x5;", 5).is("told 0 4", -1);
    run(TWO_RESTS + "detector 0; passing 0 1 0 x9; table 0 2 2 1 0; ask 0; ask 1; second 3")
        .is("light 0", AMBER).is("told 0 4", 0).is("finding 0", 0);
  }

  private void gapPlaces() {
    due.says(PART, "in places B to T less 1,");
    // Green since 2, ended in 5: places 2, 3 and 4 are counted.
    String late = "table 0 3 3 1 0; ask 1; alarm; second 1; second 1; restore; hurry 0; second 4";
    String[] rows = {"9 9 1 0 0 9", "0 0 0 0 1 9", "0 0 1 1 1 0", "0 9 0 1 0 0"};
    int[] gaps = {3, 3, 1, 3};
    for (int i = 0; i < rows.length; i++) {
      String text = "passing 0 " + rows[i].replace(" ", " 0; passing 0 ") + " 0;";
      run(CAR_AND_REST + "detector 0;" + text + late).is("count 0", 6).is("light 0", AMBER)
          .is("told 0 4", gaps[i]);
    }
  }

  private void gapFindings() {
    due.says(PART, "FINDINGS 1 and 2 (its ROWS do not reach until T less 1),");
    // It ends in 3 by GREATEST: what it lacks then is a finding of reading, and one of the gap.
    ended("cut 0;", 3).is("told 0 4", 0).is("count 1", 3 + 1).is("count 2", 0);
    ended("passing 0 1 0;", 3).is("told 0 4", 0).is("count 2", 3 + 1).is("finding 0", 2);
    ended("passing 0 1 0 x2;", 3).is("told 0 4", 0).is("count 2", 2 + 1).is("finding 1", 0);
    ended("passing 0 1 0 x3;", 3).is("told 0 4", 1).is("count 2", 1);
    ended("passing 0 1 0 x4;", 3).is("told 0 4", 1).is("count 2", 0).is("finding 0", 0);
    run(CAR_AND_REST + "table 0 3 3 1 0; ask 0; ask 1; second 4").is("light 0", AMBER)
        .is("told 0 4", 0).is("count 1", 3 + 1);
    due.says(PART, "and 3: the sum is 0; the GAP is 0 then.");
    ended("passing 0 0 0 x4;", 3).is("told 0 4", 0).is("count 3", 1).is("finding 0", 3)
        .is("finding 1", 0);
    ended("passing 0 -3 0; passing 0 1 0; passing 0 2 0; passing 0 1 0;", 3).is("told 0 4", 0)
        .is("count 3", 1);
    ended("passing 0 -3 0; passing 0 1 0; passing 0 1 0; passing 0 1 0;", 3).is("told 0 4", -3)
        .is("count 3", 0);
    ended("passing 0 -3 0; passing 0 1 0; passing 0 3 0; passing 0 1 0;", 3).is("told 0 4", 3)
        .is("count 3", 0);
    // A later green with a finding: the GAP that was there is gone.
    run(CAR_AND_REST + "detector 0; passing 0 1 0; passing 0 0 0 x9; table 0 2 2 0 0; table 1 1 1 0 0;"
        + "ask 0; ask 1; second 3").is("told 0 4", 2).make("ask 0; second 3").is("light 0", GREEN)
        .make("ask 1; second 1").is("told 0 4", 0).is("count 3", 1);
  }
}
