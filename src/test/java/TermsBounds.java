/** Parts 1 and 2 of the terms: the bounds of what there may be, and of what is read. */
final class TermsBounds {
  private static final int BAD = Crossings.BAD, FULL = Crossings.FULL, STATE = Crossings.STATE;
  private static final int MEET = Crossings.MEET, NONE = Crossings.NONE;
  private static final int CAR = 0, TURN = 1, WALK = 2, TRAM = 3, REST = 4;
  private static final int RED = 0, GREEN = 1, AMBER = 2, FLASH = 3;
  /** Two phases that are never read, each in a stage of its own. */
  private static final String TWO_RESTS = "phase 4 x2; stage 0 - - -; stage 1 - - -;";
  private static final String CAR_AND_REST = "phase 0; phase 4; stage 0 - - -; stage 1 - - -;";

  private final Sentences due;

  private TermsBounds(Sentences due) {
    this.due = due;
  }

  static void all(Sentences due) {
    TermsBounds bounds = new TermsBounds(due);
    bounds.phases();
    bounds.lights();
    bounds.conflicts();
    bounds.stages();
    bounds.detectors();
    bounds.passingsAsTheyAre();
    bounds.occupiedAsItIs();
    bounds.tables();
    bounds.orders();
    bounds.timesOfAStage();
    bounds.reading();
    bounds.findings();
    bounds.asking();
    bounds.holding();
    bounds.traces();
  }

  private Run run(String text) {
    return new Run(due, text);
  }

  // ---- Part 1

  private void phases() {
    due.says("part 1", "PHASES 0, 1, .. (8 at most)");
    run("phase 0 x7").is("count 6", 7).is("phase 4", 7).keeps("phase 4", FULL).is("count 6", 8)
        .is("told 7 0", REST).keeps("told 8 0", BAD);
    due.says("part 1", "are of KINDS 0 CAR, 1 TURN (a CAR, too), 2 WALK, 3 TRAM, 4 REST.");
    Run x = run("").keeps("phase -1; phase 5; phase min; phase max", BAD);
    for (int kind = CAR; kind <= REST; kind++) {
      x.is("phase " + kind, kind).is("told " + kind + " 0", kind);
    }
    run("phase 1; detector 0; passing 0 1 0").is("second 1", 1).is("told 0 8", 0).is("trace", 11);
  }

  private void lights() {
    due.says("part 1", "A PHASE has a LIGHT: 0 RED (at first), 1 GREEN, 2 AMBER, 3 FLASH.");
    run(TWO_RESTS + "table 0 1 1 1 0; ask 0; ask 1").is("light 0", RED)
        .make("second 1").is("light 0", GREEN).make("second 1").is("light 0", AMBER)
        .make("second 1").is("light 0", RED).make("alarm; second 1; second 2").is("light 0", RED)
        .make("second 1").is("light 0; light 1", FLASH);
  }

  private void conflicts() {
    due.says("part 1", "Two PHASES may CONFLICT, with a CLEARING time for each way.");
    String greens = "table 0 1 1 0 0; table 1 1 1 0 0; ask 0; ask 1; second 2";
    run(TWO_RESTS + "conflict 0 1 0 20;" + greens).is("told 1 7", 1).is("light 1", GREEN)
        .make("ask 0; second 1").is("told 0 7", 22).is("light 1", RED)
        .make("second 4 x4; second 3").is("count 0", 22).is("light 0", RED)
        .make("second 1").is("light 0", GREEN);
    run(TWO_RESTS + "conflict 0 1 20 0;" + greens).is("told 1 7", 21).is("light 1", RED)
        .make("second 4 x4; second 3").is("light 1", RED).make("second 1").is("light 1", GREEN)
        .make("ask 0; second 1").is("told 0 7", 22).is("light 0", GREEN);
    run(TWO_RESTS + greens).is("told 1 7", 0).make("ask 0; second 1").is("told 0 7", 0);
    for (int p = 0; p < 8; p++) {
      for (int q = 0; q < 8; q++) {
        if (p != q) conflictsOf(p, q);
      }
    }
  }

  /** The first of both ends in 1 with AMBER 2. */
  private void conflictsOf(int p, int q) {
    Run x = run("phase 4 x8; stage " + p + " - - -; stage " + q + " - - -; conflict " + p + " " + q
        + " 3 5; table " + p + " 1 1 2 0; ask " + p + "; ask " + q + "; second 2");
    for (int other = 0; other < 8; other++) x.is("told " + other + " 7", other == q ? 3 + 3 : 0);
  }

  private void stages() {
    due.says("part 1", "STAGES 0, 1, .. (6) have four PLACES, each with a PHASE or NOTHING;");
    Run x = run("phase 0 x5").is("stage 3 1 4 0", 0).is("stage - - - 2", 1);
    x.is("place 0 0", 3).is("place 0 1", 1).is("place 0 2", 4).is("place 0 3", 0);
    x.is("place 1 0; place 1 1; place 1 2", NONE).is("place 1 3", 2);
    x.keeps("place 0 -1; place 0 4; place 1 4; place 2 0", BAD);
    x.is("stage 0 - - -", 2).is("stage - 0 - -", 3).is("stage - - 0 -", 4).is("count 7", 5);
    x.is("stage 1 - - -", 5).keeps("stage 2 - - -", FULL).is("count 7", 6);
    due.says("part 1", "no two of its PHASES CONFLICT.");
    for (int one = 0; one < 4; one++) {
      for (int other = 0; other < 4; other++) {
        if (one == other) continue;
        run("phase 0 x4; conflict 0 1 0 0; conflict 1 2 3 3")
            .keeps(stageOf(one, 0, other, 1), MEET).keeps(stageOf(one, 2, other, 1), MEET)
            .is(stageOf(one, 0, other, 2), 0).is(stageOf(one, 1, other, 3), 1);
      }
    }
  }

  private static String stageOf(int place, int phase, int otherPlace, int otherPhase) {
    String text = "stage";
    for (int k = 0; k < 4; k++) {
      if (k == place) text += " " + phase;
      else text += k == otherPlace ? " " + otherPhase : " -";
    }
    return text;
  }

  private void detectors() {
    due.says("part 1", "DETECTORS 0, 1, .. (12)");
    run("phase 0; phase 0; detector 0 x11").is("count 8", 11).is("detector 1", 11)
        .keeps("detector 0", FULL).is("told 1 1", 11).is("told 0 1", 10).is("length 11", 0)
        .keeps("length 12", BAD);
    due.says("part 1", "have two ROWS of one length (200 at most):");
    run("phase 0; detector 0 x2; passing 1 0 0").is("length 0", 0).make("passing 0 0 0 x198")
        .is("passing 0 0 0", 199).is("passing 0 0 0", 200).keeps("passing 0 0 0", FULL)
        .is("length 0", 200).is("length 1", 1).is("passing 1 0 0", 2);
    due.says("part 1", "one that is CUT OFF has none.");
    run("phase 0; detector 0; passing 0 0 0 x2; cut 0").is("length 0", NONE)
        .keeps("passing 0 0 0; cut 0", STATE).make("second 1").is("count 1", 1).is("count 2", 0);
    due.says("part 1", "A PHASE has a DETECTOR or none.");
    run("phase 0 x2").is("told 0 1; told 1 1", NONE).make("detector 1").is("told 0 1", NONE)
        .is("told 1 1", 0);
  }

  /** Green since 0 with one row: first that many passings, then 0; ended in this second. */
  private Run endedIn(int second, String first) {
    return run(CAR_AND_REST + "detector 0; passing 0 " + first + " 0; passing 0 0 0 x129; ask 0;"
        + "second 4 x" + second / 4 + "; second " + second % 4 + "; ask 1; second 1")
        .is("light 0", AMBER);
  }

  private void passingsAsTheyAre() {
    due.says("part 1", "PASSINGS (bytes)");
    endedIn(127, "-128").is("told 0 4", 0);
    endedIn(128, "-128").is("told 0 4", -1);
    endedIn(126, "127").is("told 0 4", 0);
    endedIn(127, "127").is("told 0 4", 1);
    run("phase 0; detector 0").keeps("passing 0 -129 0; passing 0 128 0", BAD)
        .is("passing 0 -128 0", 1).is("passing 0 127 0", 2);
  }

  private void occupiedAsItIs() {
    due.says("part 1", "and OCCUPIED (shorts, 0 .. 10000);");
    run("phase 0; detector 0").keeps("passing 0 0 -1; passing 0 0 10001", BAD)
        .is("passing 0 0 0", 1).is("passing 0 0 10000", 2).make("second 1").is("told 0 8", NONE)
        .make("second 1").is("told 0 8", 1);
  }

  private void tables() {
    due.says("part 1", "THE TABLE tells of each PHASE LEAST (1 .. 60; 5 at first),");
    run("phase 0 x2").is("told 0 9; told 1 9", 5).keeps("table 0 0 20 3 0; table 0 61 120 3 0", BAD)
        .is("table 0 1 20 3 0", 1).is("table 1 60 60 3 0", 2).make("second 1")
        .is("told 0 9", 1).is("told 1 9", 60);
    due.says("part 1", "GREATEST (LEAST .. 120; 20)");
    run("phase 0 x2").is("told 0 10; told 1 10", 20)
        .keeps("table 0 7 6 3 0; table 0 1 0 3 0; table 0 60 59 3 0; table 0 7 121 3 0", BAD)
        .is("table 0 7 7 3 0", 1).is("table 1 7 120 3 0", 2).make("second 1")
        .is("told 0 10", 7).is("told 1 10", 120);
    due.says("part 1", "and AMBER (0 .. 9; 3);");
    run("phase 0 x2").is("told 0 11; told 1 11", 3)
        .keeps("table 0 5 20 -1 0; table 0 5 20 10 0", BAD)
        .is("table 0 5 20 0 0", 1).is("table 1 5 20 9 0", 2).make("second 1")
        .is("told 0 11", 0).is("told 1 11", 9);
  }

  private void orders() {
    due.says("part 1", "ORDERS (16 at most) change it from a SECOND on.");
    run("phase 0; table 0 1 1 1 9 x15").is("count 9", 15).is("table 0 2 2 2 9", 16)
        .keeps("table 0 3 3 3 9; table 0 3 3 3 0", FULL).is("count 9", 16);
    run("phase 0; table 0 6 7 8 2; second 2").is("told 0 9", 5).is("told 0 10", 20)
        .is("told 0 11", 3).make("second 1").is("told 0 9", 6).is("told 0 10", 7)
        .is("told 0 11", 8).make("second 4").is("told 0 9", 6).is("count 9", 0);
  }

  /** Phases 0 and 1 with these times are green together since 0, and hold; stage 1 is wanted. */
  private Run together(String one, String other, String wanted) {
    return run("phase 4 x3; stage - 1 - 0; stage 2 - - -; table 0 " + one + " 0 0; table 1 " + other
        + " 0 0; ask 0; second 1;" + wanted);
  }

  private void endsBehind(Run x, int seconds) {
    x.make("second 1 x" + (seconds - 1)).is("light 0; light 1", GREEN);
    x.make("second 1").is("light 0; light 1", RED);
  }

  private void timesOfAStage() {
    due.says("part 1", "Of a STAGE: LEAST is the greatest LEAST of its PHASES;");
    endsBehind(together("3 60", "4 60", "hurry 1"), 4);
    endsBehind(together("4 60", "3 60", "hurry 1"), 4);
    endsBehind(together("1 60", "1 60", "hurry 1"), 1);
    due.says("part 1", "GREATEST is the least GREATEST of them,");
    endsBehind(together("1 9", "1 8", "ask 2"), 8);
    endsBehind(together("1 8", "1 9", "ask 2"), 8);
    together("1 9", "1 8", "").is("bound", 8 + 20 + 2 * 3);
    due.says("part 1", "but not below its LEAST.");
    endsBehind(together("6 9", "1 5", "ask 2"), 6);
    endsBehind(together("1 5", "6 9", "ask 2"), 6);
    endsBehind(together("6 9", "1 6", "ask 2"), 6);
    endsBehind(together("6 9", "1 7", "ask 2"), 7);
    together("6 9", "1 5", "").is("bound", 6 + 20 + 2 * 3);
    together("6 9", "1 6", "").is("bound", 6 + 20 + 2 * 3);
    together("6 9", "1 7", "").is("bound", 7 + 20 + 2 * 3);
  }

  // ---- Part 2

  private void reading() {
    due.says("part 2", "READING a PHASE (no REST) in SECOND T:"
        + " what stands in place T of the ROWS of its DETECTOR.");
    run("phase 0; detector 0; passing 0 0 0 x2; passing 0 1 0; second 2").is("told 0 8", NONE)
        .is("trace", 2).make("second 1").is("told 0 8", 2).is("trace", 3);
    run("phase 0; detector 0; passing 0 1 0; second 1").is("told 0 8", 0);
    run("phase 4; stage 0 - - -; detector 0; passing 0 1 9000 x9; second 4").is("told 0 8", NONE)
        .is("trace", 0).is("finding 0", 0);
  }

  private void findings() {
    due.says("part 2", "FINDINGS: 1 it has no DETECTOR, or that is CUT OFF;");
    run("phase 0; second 1").is("count 1", 1).is("finding 0", 1).is("finding 1", 0);
    run("phase 0; detector 0; passing 0 0 0; cut 0; second 1").is("count 1", 1).is("count 2", 0);
    run("phase 0; detector 0; passing 0 0 0; second 1").is("count 1", 0);
    due.says("part 2", "2 its ROWS are not so long.");
    run("phase 0; detector 0; second 1").is("count 2", 1).is("count 1", 0).is("finding 0", 2);
    run("phase 0; detector 0; passing 0 0 0; second 1").is("count 2", 0).make("second 1")
        .is("count 2", 1).is("told 0 8", 1);
    run("phase 0; detector 0; passing 0 0 0 x2; second 2").is("count 2", 0);
    run("phase 0; detector 0; passing 0 0 0 x200; second 4 x50").is("count 2", 0)
        .is("told 0 8", NONE).make("second 1").is("count 2", 1).is("told 0 8", 200);
    run("phase 0; detector 0; passing 0 0 0 x199; second 4 x49; second 3").is("count 2", 0)
        .make("second 1").is("count 2", 1).is("told 0 8", 199);
    due.says("part 2", "FINDINGS are counted by KIND; the latest one is told with its PHASE.");
    run("phase 0 x3; stage 0 - - -; detector 1; second 1").is("count 1", 2).is("count 2", 1)
        .is("count 3; count 4", 0).is("finding 0", 1).is("finding 1", 2).is("place 0 1", NONE)
        .is("count 4", 1).is("finding 0", 4).is("finding 1", NONE).is("count 1", 2);
  }

  private void asks(int kind, int passings, int occupied, boolean want, int trace) {
    run("phase " + kind + "; detector 0; passing 0 " + passings + " " + occupied + "; second 1")
        .is("told 0 8", want ? 0 : NONE).is("trace", trace).is("finding 0", 0);
  }

  private void asking() {
    due.says("part 2", "ASKS, by KIND: CAR: PASSINGS above 0, or OCCUPIED 5000 or more.");
    asks(CAR, -1, 0, false, 1);
    asks(CAR, 0, 0, false, 1);
    asks(CAR, 1, 0, true, 1);
    asks(CAR, 0, 4999, false, 1);
    asks(CAR, 0, 5000, true, 1);
    asks(CAR, 0, 5001, true, 1);
    asks(CAR, -128, 10000, true, 1);
    due.says("part 2", "TURN: OCCUPIED 2000 or more, or as a CAR.");
    asks(TURN, 0, 1999, false, 11);
    asks(TURN, 0, 2000, true, 10);
    asks(TURN, 0, 2001, true, 10);
    asks(TURN, -1, 1999, false, 11);
    asks(TURN, 1, 1999, true, 11);
    asks(TURN, 1, 2000, true, 10);
    due.says("part 2", "WALK: PASSINGS above 0.");
    asks(WALK, -1, 10000, false, 100);
    asks(WALK, 0, 10000, false, 100);
    asks(WALK, 1, 0, true, 100);
    due.says("part 2", "TRAM: PASSINGS are not 0.");
    asks(TRAM, -1, 0, true, 1000);
    asks(TRAM, 0, 10000, false, 1000);
    asks(TRAM, 1, 0, true, 1000);
    asks(TRAM, -128, 0, true, 1000);
  }

  /** Green since 0 with LEAST 1 while another is wanted: it is green in 1 only if it holds. */
  private Run green(int kind, String rows) {
    return run("phase " + kind + "; phase 4; stage 0 - - -; stage 1 - - -; table 0 1 20 3 0; " + rows
        + "ask 0; ask 1; second 1").is("light 0", GREEN).is("trace", 0).make("second 1");
  }

  private void holds(int kind, int passings, boolean want, int trace) {
    String rows = "detector 0; passing 0 0 0; passing 0 " + passings + " 10000;";
    green(kind, rows).is("light 0", want ? GREEN : AMBER).is("trace", trace);
  }

  private void holding() {
    due.says("part 2", "HOLDS: CAR, TURN: PASSINGS above 0.");
    for (int kind = CAR; kind <= TURN; kind++) {
      holds(kind, -1, false, 5);
      holds(kind, 0, false, 5);
      holds(kind, 1, true, 5);
    }
    due.says("part 2", "WALK: no.");
    for (int passings = -1; passings <= 1; passings++) holds(WALK, passings, false, 50);
    due.says("part 2", "TRAM: PASSINGS are not 0. REST: yes (not READ).");
    holds(TRAM, -1, true, 500);
    holds(TRAM, 0, false, 500);
    holds(TRAM, 1, true, 500);
    holds(REST, 0, true, 5000);
    green(REST, "").is("light 0", GREEN).is("trace", 5000).is("finding 0", 0);
    due.says("part 2", "With a FINDING both are yes.");
    for (int kind = CAR; kind <= TRAM; kind++) {
      run("phase " + kind + " x2; detector 1; second 1").is("told 0 8; told 1 8", 0);
      green(kind, "").is("light 0", GREEN).is("finding 0", 1);
      green(kind, "detector 0; passing 0 0 0;").is("light 0", GREEN).is("finding 0", 2);
      green(kind, "detector 0; passing 0 0 0 x2; cut 0;").is("light 0", GREEN).is("finding 0", 1);
    }
  }

  private void traces() {
    due.says("part 2", "THE TRACE is the sum of the BODIES that ran: ASKS of CAR 1, of TURN 10 (and"
        + " 1, where it goes on to that of CAR), of WALK 100, of TRAM 1000;");
    run("phase 0; phase 1; phase 2; phase 3; phase 4; detector 0; detector 1; detector 2; detector 3;"
        + "passing 0 0 0 x4; passing 1 0 0 x3; passing 1 0 2000; passing 2 0 0 x4; passing 3 0 0 x4")
        .is("trace", 0).make("second 1").is("trace", 1112).make("second 2").is("trace", 3336)
        .make("second 1").is("trace", 4447);
    due.says("part 2",
        "HOLDS of CAR (and TURN) 5, of WALK 50, of TRAM 500, of REST 5000.");
    run("phase 0; phase 1; phase 2; phase 3; phase 4; stage 0 1 2 3; stage 4 - - -; detector 0;"
        + "detector 1; detector 2; detector 3; passing 0 1 0 x5; passing 1 1 0 x5; passing 2 1 0 x5;"
        + "passing 3 1 0 x5; second 1").is("light 0; light 1; light 2; light 3", GREEN)
        .is("trace", 1112).make("second 1").is("trace", 1112 + 560).make("second 1")
        .is("trace", 1112 + 2 * 560);
    run("phase 4; stage 0 - - -; ask 0; second 1").is("trace", 0).make("second 4").is("trace", 20000);
    due.says("part 2", "With a FINDING none runs.");
    for (int kind = CAR; kind <= TRAM; kind++) {
      run("phase " + kind + " x3; detector 1; detector 2; cut 1; stage 0 1 2 -; second 3")
          .is("light 0; light 1; light 2", GREEN).is("trace", 0).is("count 1", 6).is("count 2", 3);
    }
  }
}
