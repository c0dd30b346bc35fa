/** Promises 16 to 26: the bounds of what is told, and that telling changes nothing. */
final class TellingBounds {
  private static final int BAD = Crossings.BAD, FULL = Crossings.FULL, NONE = Crossings.NONE;
  private static final int RED = 0, GREEN = 1, AMBER = 2, FLASH = 3;
  private static final String TWO_RESTS = "phase 4 x2; stage 0 - - -; stage 1 - - -;";

  private final Sentences due;

  private TellingBounds(Sentences due) {
    this.due = due;
  }

  static void all(Sentences due) {
    TellingBounds bounds = new TellingBounds(due);
    bounds.light();
    bounds.was();
    bounds.wasOfLongAgo();
    bounds.stageOf();
    bounds.place();
    bounds.told();
    bounds.length();
    bounds.bound();
    bounds.count();
    bounds.finding();
    bounds.fault();
    bounds.trace();
    bounds.lastCall();
  }

  private Run run(String text) {
    return new Run(due, text);
  }

  private void light() {
    due.says("promise 16", "The LIGHT of a PHASE.");
    run("phase 4 x8; stage 7 - - -; ask 7; second 1").keeps("light 7", GREEN)
        .keeps("light 0; light 6", RED);
    due.says("promise 16", "BAD.");
    run("").keeps("light 0; light -1", BAD);
    run(TWO_RESTS).keeps("light -1; light 2; light -; light 8; light min; light max", BAD);
  }

  private void was() {
    due.says("promise 17", "The LIGHT that a PHASE had behind the n-th SECOND before the latest one"
        + " (0 .. 60; 0: the latest; restore() is none).");
    // 0 green, 1 amber, 2 red, 3 the fault, 4, 5, then flash in 6.
    Run x = run(TWO_RESTS + "table 0 1 1 1 0; ask 0; ask 1; second 3; alarm; second 1; second 3")
        .keeps("was 0 0", FLASH).is("was 0 1; was 0 2; was 0 3; was 0 4", RED).is("was 0 5", AMBER)
        .keeps("was 0 6", GREEN).is("was 1 6", RED).is("was 1 5", GREEN).is("was 1 4", GREEN)
        .is("was 1 3", RED);
    x.make("restore").is("light 0", RED).is("was 0 0", FLASH).is("was 0 6", GREEN);
    x.make("second 1").is("was 0 0", RED).is("was 0 1", FLASH).is("was 0 7", GREEN);
    due.says("promise 17", "BAD;");
    run("").keeps("was 0 0", BAD);
    run("phase 4; second 4").keeps("was 0 -1; was 0 61; was 0 min; was 0 max; was 0 -", BAD)
        .keeps("was -1 0; was 1 0; was - 0; was 1 61; was min 0; was max 60", BAD);
    run("phase 4").keeps("was 0 -1; was 0 61", BAD);
    due.says("promise 17", "NONE: there was no such SECOND.");
    run("phase 4").keeps("was 0 0; was 0 1; was 0 60", NONE).make("second 0").is("was 0 0", NONE)
        .make("second 1").is("was 0 0", RED).keeps("was 0 1; was 0 60", NONE);
    run("phase 4; second 4 x15").is("was 0 59", RED).keeps("was 0 60", NONE).make("second 1")
        .keeps("was 0 60", RED).keeps("was 0 61", BAD);
  }

  private void wasOfLongAgo() {
    due.says("promise 17", "(0 .. 60; 0: the latest; restore() is none).");
    // Amber in 60 alone: told while it is at most 60 seconds before the latest one.
    String amber = TWO_RESTS + "table 0 60 60 1 0; ask 0; ask 1; second 4 x15;";
    run(amber + "second 1").is("was 0 0", AMBER).is("was 0 60", GREEN).is("was 1 60", RED)
        .make("second 1").is("was 0 0", RED).is("was 0 1", AMBER).make("second 4 x14; second 2")
        .is("was 0 59", AMBER).is("was 0 60", GREEN).is("was 0 58", RED)
        .make("second 1").is("was 0 60", AMBER).is("was 0 59; was 0 0", RED)
        .make("second 1").is("was 0 60", RED);
    // Each of the latest 61 seconds, far behind the first.
    Run x = run(TWO_RESTS + "table 0 1 1 0 0; table 1 2 2 0 0");
    int[] lights = new int[140];
    for (int t = 0; t < lights.length; t++) {
      // Stage 0 is green for one second, stage 1 for two.
      lights[t] = t % 3 == 0 ? GREEN : RED;
      x.make("ask 0; ask 1; second 1");
    }
    for (int n = 0; n <= 60; n++) x.is("was 0 " + n, lights[lights.length - 1 - n]);
  }

  private void stageOf() {
    due.says("promise 18", "0 the STAGE that is GREEN,");
    run("phase 4; stage 0 - - - x6; hurry 5").keeps("stageOf 0", NONE).make("second 1")
        .keeps("stageOf 0", 5);
    due.says("promise 18",
        "1 THE NEXT that (e) would choose now (also while one is GREEN: of the others; or in a FAULT),");
    run(TWO_RESTS).keeps("stageOf 1", NONE).make("ask 1").keeps("stageOf 1", 1).make("second 1")
        .is("stageOf 0", 1).keeps("stageOf 1", NONE).make("ask 0").keeps("stageOf 1", 0)
        .make("alarm; second 1").is("stageOf 0", NONE).keeps("stageOf 1", 0);
    // The green one itself is none of the others, though it has a phase that is asked.
    run("phase 4 x2; stage 0 - - -; stage 0 1 - -; ask 0; second 1; ask 1").is("stageOf 0", 0)
        .keeps("stageOf 1", 1);
    run(TWO_RESTS + "ask 0; hurry 1").keeps("stageOf 1", 1).make("second 1").keeps("stageOf 1", 0);
    due.says("promise 18", "2 the HURRIED one (each NONE, if there is none),");
    run(TWO_RESTS).keeps("stageOf 2; stageOf 0; stageOf 1", NONE).make("hurry 0")
        .keeps("stageOf 2", 0).make("second 1").keeps("stageOf 2", NONE);
    due.says("promise 18",
        "3 how many SECONDS behind that in which it began NOW is (NONE, if none is GREEN).");
    run(TWO_RESTS).keeps("stageOf 3", NONE).make("second 2").is("stageOf 3", NONE)
        .make("ask 0; second 1").keeps("stageOf 3", 1).make("second 4").keeps("stageOf 3", 5)
        .make("alarm; second 1").keeps("stageOf 3", NONE);
    due.says("promise 18", "BAD.");
    run(TWO_RESTS + "ask 0; second 1").keeps("stageOf -1; stageOf 4; stageOf min; stageOf max", BAD);
  }

  private void place() {
    due.says("promise 19", "The PHASE at a PLACE of a STAGE;");
    run("phase 0 x8; stage 7 0 6 1 x6").keeps("place 5 0", 7).is("place 5 1", 0).is("place 0 2", 6)
        .keeps("place 5 3", 1).is("count 4; finding 0", 0);
    due.says("promise 19", "NONE: NOTHING, which is a FINDING 4 (of no PHASE: NONE).");
    run("phase 0; stage - 0 - -; second 1").is("finding 0", 1).is("finding 1", 0).is("place 0 0", NONE)
        .is("finding 0", 4).is("finding 1", NONE).is("count 4", 1).is("place 0 3; place 0 2", NONE)
        .is("count 4", 3).is("count 1", 1).is("place 0 1", 0).is("count 4", 3);
    due.says("promise 19", "BAD.");
    run("phase 0").keeps("place 0 0; place 0 -1", BAD);
    run("phase 0; stage - 0 - -").keeps("place -1 0; place 1 0; place - 0; place 6 0", BAD)
        .keeps("place 0 -1; place 0 4; place 0 -; place 0 min; place 0 max; place min 1", BAD)
        .is("count 4", 0);
  }

  private void told() {
    due.says("promise 20", "Of a PHASE: 0 KIND,");
    run("phase 4 x7; phase 3").keeps("told 7 0", 3).keeps("told 6 0", 4);
    due.says("promise 20", "1 its DETECTOR (also one that is CUT OFF; NONE),");
    run("phase 4 x8").keeps("told 7 1", NONE).make("detector 7").keeps("told 7 1", 0).make("cut 0")
        .keeps("told 7 1", 0).make("detector 7 x11").is("told 7 1", 11);
    due.says("promise 20", "2 how often its MEMBER was ENTERED, 3 LEFT, 4 its latest GAP,"
        + " 5 how often it became GREEN,");
    String twice = "phase 0; phase 4; stage 0 - - -; stage 1 - - -; detector 0; passing 0 1 0 x2;"
        + "passing 0 0 0 x9; table 0 2 2 0 0; table 1 1 1 0 0; ask 0; ask 1;";
    run(twice).keeps("told 0 2; told 0 3; told 0 4; told 0 5", 0).make("second 1")
        .is("told 0 2; told 0 3; told 0 5", 1).is("told 0 4", 0).make("second 2")
        .is("told 0 2; told 0 3", 2).keeps("told 0 4", 1).keeps("told 0 5", 1)
        .make("ask 0; second 1").is("told 0 5", 2).is("told 0 2", 3).keeps("told 0 4", 1);
    due.says("promise 20", "6 the SECOND in which it ENDS or did (NONE: never), 7 FREE,");
    run(TWO_RESTS + "conflict 0 1 4 9; table 0 1 1 2 0; ask 0; ask 1").keeps("told 0 6", NONE)
        .keeps("told 1 7", 0).make("second 1").is("told 0 6", NONE).make("second 1")
        .keeps("told 0 6", 3).keeps("told 1 7", 7).make("second 4 x2").is("light 1", GREEN)
        .is("told 0 6", 3).is("told 1 7", 7).is("told 1 6", NONE).is("told 0 7", 0);
    due.says("promise 20", "8 the SECOND since which it is ASKED (NONE),");
    run(TWO_RESTS).keeps("told 0 8", NONE).make("ask 0").keeps("told 0 8", 0).make("second 1")
        .keeps("told 0 8", NONE).make("second 2; ask 1").keeps("told 1 8", 3);
    due.says("promise 20", "9 LEAST, 10 GREATEST, 11 AMBER.");
    run("phase 4 x2; table 1 60 120 9 0").keeps("told 1 9", 5).is("told 1 10", 20).is("told 1 11", 3)
        .make("second 1").keeps("told 1 9", 60).is("told 1 10", 120).keeps("told 1 11", 9)
        .is("told 0 9", 5);
    due.says("promise 20", "BAD.");
    run("").keeps("told 0 0; told 0 12", BAD);
    run(TWO_RESTS).keeps("told -1 0; told 2 0; told - 0; told min 0; told max 0; told 2 12", BAD)
        .keeps("told 0 -1; told 0 12; told 0 -; told 0 min; told 0 max", BAD);
    run("phase 3 x8").keeps("told 8 0; told 8 11", BAD).is("told 7 0", 3);
  }

  private void length() {
    due.says("promise 21", "How long the ROWS of a DETECTOR are;");
    run("phase 0; detector 0 x12").keeps("length 0; length 11", 0).make("passing 11 0 0")
        .keeps("length 11", 1).is("length 10", 0).make("passing 11 0 0 x199").is("length 11", 200)
        .make("passing 11 0 0; second 4").is("length 11", 200);
    due.says("promise 21", "NONE: it is CUT OFF.");
    run("phase 0; detector 0 x2; passing 0 1 1; cut 0; cut 1").keeps("length 0; length 1", NONE);
    due.says("promise 21", "BAD.");
    run("phase 0").keeps("length 0; length -1", BAD);
    run("phase 0; detector 0; cut 0").keeps("length -1; length 1; length -; length min; length max", BAD);
  }

  private void bound() {
    due.says("promise 22", "As things are: GREATEST of all STAGES together,");
    run("phase 4 x2; stage 0 - - -; stage 1 - - -; stage 0 1 - -; table 0 1 1 0 0; table 1 60 120 0 0")
        .keeps("bound", 3 * (20 + 3)).make("second 1").keeps("bound", 1 + 120 + 60)
        .make("table 0 1 61 0 1; second 1").is("bound", 61 + 120 + 61);
    run("phase 4; stage 0 - - - x6; table 0 60 120 9 0; second 1").is("bound", 6 * (120 + 9));
    due.says("promise 22", "and for each STAGE the greatest AMBER of all PHASES");
    run("phase 4 x3; stage 0 - - - x5; table 2 5 20 9 0; second 1").is("bound", 5 * (20 + 9));
    run("phase 4 x3; stage 0 - - - x5; table 2 5 20 4 0; second 1").is("bound", 5 * (20 + 4));
    run("phase 4 x3; stage 0 - - - x5; table 2 5 20 2 0; second 1").is("bound", 5 * (20 + 3));
    run("phase 4 x2; stage 0 - - -; table 0 5 20 0 0; table 1 5 20 0 0; second 1").is("bound", 20);
    due.says("promise 22",
        "and the greatest CLEARING of all that CONFLICT (whether a STAGE has them or not).");
    run("phase 4 x8; stage 0 - - -").is("bound", 23).make("conflict 6 7 0 0").is("bound", 23)
        .make("conflict 6 7 0 1").is("bound", 24).make("conflict 6 7 20 1").is("bound", 43)
        .make("conflict 0 1 19 2; conflict 6 7 0 1").is("bound", 42).make("stage 1 - - -")
        .keeps("bound", 84).make("conflict 0 1 0 20").is("bound", 86);
    due.says("promise 22", "0 without STAGES.");
    run("").keeps("bound", 0);
    run("phase 4 x2; conflict 0 1 20 20; table 0 60 120 9 0; second 1").keeps("bound", 0);
  }

  private void count() {
    due.says("promise 23", "0 NOW, 1 .. 4 FINDINGS of that KIND,");
    // Phase 0 has no rows, 1 has short ones, 2 passes nothing; the last is never read.
    String kinds = "phase 0 x3; phase 4; stage 0 1 2 -; stage 3 - - -; detector 1; detector 2;"
        + "passing 1 0 0 x2; table 0 1 1 0 0; table 1 1 1 0 0; table 2 1 1 0 0; ask 3;";
    run(kinds + "second 2").keeps("count 0", 2).keeps("count 1", 1 + 1 + 1).is("count 2", 3)
        .is("count 3", 1).is("count 4", 0).is("place 0 3", NONE).keeps("count 4", 1).is("count 3", 1);
    due.says("promise 23", "5 FAULTS met, 6 PHASES, 7 STAGES, 8 DETECTORS, 9 ORDERS, 10 pairs,");
    run("phase 4 x8; stage 0 - - - x6; detector 0 x12; table 0 5 20 3 9 x16; pair 0 1 60 x6; alarm")
        .is("count 5", 0).make("second 1").is("count 5", 1).keeps("count 6", 8).is("count 7", 6)
        .is("count 8", 12).keeps("count 9", 16).is("count 10", 6).make("restore; cut 0")
        .is("count 5", 1).is("count 8", 12);
    due.says("promise 23", "11 changes of LIGHTS.");
    run(TWO_RESTS + "table 0 1 1 0 0; ask 0").keeps("count 11", 0).make("second 1").is("count 11", 1)
        .make("ask 1; second 1").keeps("count 11", 3);
    due.says("promise 23", "BAD.");
    run(TWO_RESTS).keeps("count -1; count 12; count -; count min; count max", BAD);
  }

  private void finding() {
    due.says("promise 24", "The latest FINDING: 0 its KIND (0 before one), 1 its PHASE (NONE).");
    run("phase 4; phase 0").keeps("finding 0", 0).keeps("finding 1", NONE).make("second 1")
        .keeps("finding 0; finding 1", 1);
    run("phase 0; stage 0 - - -; detector 0; second 1").keeps("finding 0", 2).keeps("finding 1", 0)
        .make("place 0 1").keeps("finding 0", 4).keeps("finding 1", NONE).make("second 1")
        .is("finding 0", 2).is("finding 1", 0);
    due.says("promise 24", "BAD.");
    run("phase 0; second 1").keeps("finding -1; finding 2; finding -; finding min; finding max", BAD);
  }

  private void fault() {
    due.says("promise 25", "The latest FAULT: 0 its KIND (0 before one), 1 its SECOND (NONE),"
        + " 2 its NUMBER (0),");
    run(TWO_RESTS).keeps("fault 0; fault 2; fault 3", 0).keeps("fault 1", NONE)
        .make("second 2; alarm; second 1").keeps("fault 0", 3).keeps("fault 1", 2).keeps("fault 2", 1)
        .make("restore; second 1; ask 0; second 1; lamp 0 1; second 1").is("fault 0", 1)
        .is("fault 1", 5).is("fault 2", 2);
    due.says("promise 25", "3 whether it is still (0; 1 all RED, 2 FLASH).");
    run("phase 4; alarm").is("fault 3", 0).make("second 1").keeps("fault 3", 1).make("second 2")
        .is("fault 3", 1).make("second 1").keeps("fault 3", 2).make("second 4").is("fault 3", 2)
        .make("restore").keeps("fault 3", 0).is("fault 0", 3).is("fault 2", 1).is("fault 1", 0);
    run("phase 4; alarm; second 1; restore").is("fault 3", 0);
    due.says("promise 25", "BAD.");
    run("alarm; second 1").keeps("fault -1; fault 4; fault -; fault min; fault max", BAD);
  }

  private void trace() {
    due.says("promise 26", "THE TRACE.");
    run("phase 4; stage 0 - - -; ask 0").keeps("trace", 0).make("second 1").keeps("trace", 0)
        .make("second 1").keeps("trace", 5000).make("second 4 x400").is("count 0", 1602)
        .is("trace", 1601 * 5000);
    run("phase 4 x8; stage 0 1 2 3; ask 0; second 1; second 4 x490").is("trace", 4 * 1960 * 5000);
  }

  private void lastCall() {
    due.says("what it is", "An object is used for at most 512 calls after it has been made;"
        + " what later calls answer is free.");
    run("phase 4; stage 0 - - -; ask 0; second 4 x507").is("count 0", 4 * 507)
        .is("trace", 5000 * (4 * 507 - 1));
    run("phase 4; alarm; second 4 x509").is("light 0", FLASH);
    run("phase 4 x511").is("phase 0", FULL);
  }
}
