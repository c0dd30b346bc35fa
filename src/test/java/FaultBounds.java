/** Part 4 of the terms: when each fault is met, what it does, and the refusals of all calls. */
final class FaultBounds {
  private static final int BAD = Crossings.BAD, FULL = Crossings.FULL, STATE = Crossings.STATE;
  private static final int MEET = Crossings.MEET, NONE = Crossings.NONE;
  private static final int RED = 0, GREEN = 1, AMBER = 2, FLASH = 3;
  private static final int LAMP = 1, PAIR = 2, ALARM = 3;
  private static final String PART = "part 4";
  private static final String TWO_RESTS = "phase 4 x2; stage 0 - - -; stage 1 - - -;";

  private final Sentences due;

  private FaultBounds(Sentences due) {
    this.due = due;
  }

  static void all(Sentences due) {
    FaultBounds bounds = new FaultBounds(due);
    bounds.lamps();
    bounds.pairs();
    bounds.pairsAnew();
    bounds.alarms();
    bounds.firstOfThese();
    bounds.numbers();
    bounds.inItsSecond();
    bounds.stepsNotDone();
    bounds.flash();
    bounds.untilRestore();
    bounds.refusals();
  }

  private Run run(String text) {
    return new Run(due, text);
  }

  private void lamps() {
    due.says(PART, "1 LAMP: the lamp of a PHASE that is GREEN or AMBER is out;");
    String green = TWO_RESTS + "table 0 1 1 2 0; ask 0;";
    run(green + "lamp 0 1").is("second 4", 2).is("fault 0", LAMP).is("fault 1", 1);
    run(green + "second 1; lamp 0 1").is("second 4", 1).is("fault 1", 1);
    run(green + "lamp 1 1").is("second 4", 4).is("fault 0", 0);
    run(green + "ask 1; second 2").is("light 0", AMBER).make("lamp 0 1").is("second 4", 1)
        .is("fault 0", LAMP).is("fault 1", 2);
    // It is amber still when faults are looked at in the second in which it ends.
    run(green + "ask 1; second 3").is("light 0", AMBER).is("told 0 6", 3).make("lamp 0 1")
        .is("second 4", 1).is("fault 1", 3);
    run(green + "ask 1; second 4").is("light 0", RED).make("lamp 0 1").is("second 4", 4)
        .is("fault 0", 0);
    run(green + "lamp 0 1; lamp 0 0").is("second 4", 4).is("fault 0", 0);
    run("phase 4 x8; stage 7 - - -; lamp 7 1; ask 7").is("second 4", 2).is("fault 0", LAMP);
    // A lamp that stays out is met again behind a restore only once its phase is lit.
    run(green + "lamp 0 1; second 2; restore").is("second 4", 4).make("ask 0").is("second 4", 2)
        .is("fault 2", 2);
  }

  /** A pair of this span; the rows are told as digits, "101" and "000" differ in 0 and in 2. */
  private Run paired(int span, String one, String other) {
    StringBuilder text = new StringBuilder("phase 4; detector 0 x2; pair 0 1 " + span + ";");
    for (char c : one.toCharArray()) text.append("passing 0 " + c + " 0;");
    for (char c : other.toCharArray()) text.append("passing 1 " + c + " 0;");
    return run(text.toString());
  }

  private void pairs() {
    due.says(PART, "2 PAIR: two DETECTORS told as a pair differ in as many SECONDS running as told");
    paired(1, "1", "0").is("second 4", 1).is("fault 0", PAIR).is("fault 1", 0);
    paired(1, "0001", "0000").is("second 4", 4).is("fault 0", PAIR).is("fault 1", 3);
    paired(3, "1111", "0000").is("second 4", 3).is("fault 1", 2);
    paired(4, "1111", "0000").is("second 4", 4).is("fault 1", 3);
    paired(5, "1111", "0000").is("second 4", 4).is("fault 0", 0);
    run("phase 4; detector 0 x2; passing 0 1 0 x4; passing 1 0 0 x4; second 2; pair 0 1 2")
        .is("second 2", 2).is("fault 0", PAIR).is("fault 1", 3);
    due.says(PART, "(that one of both has PASSINGS above 0 in place T, the other not;");
    paired(2, "10", "01").is("second 4", 2).is("fault 0", PAIR);
    paired(1, "1234", "9111").is("second 4", 4).is("fault 0", 0);
    paired(1, "0000", "0000").is("second 4", 4).is("fault 0", 0);
    String two = "phase 4; detector 0 x2; pair 0 1 1;";
    run(two + "passing 0 -1 0; passing 1 0 0").is("second 1", 1).is("fault 0", 0);
    run(two + "passing 0 -1 9000; passing 1 -128 0").is("second 1", 1).is("fault 0", 0);
    run(two + "passing 0 0 0; passing 1 1 0").is("second 1", 1).is("fault 0", PAIR);
    run(two + "passing 0 -1 0; passing 1 1 0").is("second 1", 1).is("fault 0", PAIR);
    run(two + "passing 0 127 0; passing 1 -128 0").is("second 1", 1).is("fault 0", PAIR);
  }

  private void pairsAnew() {
    due.says(PART, "SECONDS in which the ROWS of one do not reach T, or in which they do not differ,"
        + " begin anew;");
    paired(2, "1011", "0000").is("second 4", 4).is("fault 1", 3);
    paired(2, "1010", "0000").is("second 4", 4).is("fault 0", 0);
    paired(2, "1111", "0100").is("second 4", 4).is("fault 1", 3);
    paired(3, "1111", "0010").is("second 4", 4).is("fault 0", 0);
    paired(2, "1111", "0").is("second 4", 4).is("fault 0", 0);
    paired(2, "1", "0000").is("second 4", 4).is("fault 0", 0);
    // In 1 the rows of one do not reach: 0 and 2 are not running.
    paired(2, "1111", "0").make("second 2; passing 1 0 0 x2").is("second 1", 1).is("fault 0", 0)
        .make("passing 1 0 0").is("second 1", 1).is("fault 1", 3);
    for (int d = 0; d <= 1; d++) {
      paired(2, "1111", "0000").make("second 1; cut " + d).is("second 3", 3).is("fault 0", 0);
      paired(2, "0000", "1111").make("second 1; cut " + d).is("second 3", 3).is("fault 0", 0);
      paired(1, "1", "0").make("cut " + d).is("second 1", 1).is("fault 0", 0);
      paired(1, "0", "1").make("cut " + d).is("second 1", 1).is("fault 0", 0);
    }
    due.says(PART, "so does a FAULT, of all pairs);");
    paired(3, "1111111", "0000000").make("second 1; alarm").is("second 1", 1).is("fault 0", ALARM)
        .make("second 1; restore").is("second 4", 3).is("fault 0", PAIR).is("fault 1", 5);
    paired(2, "1111111", "0000000").make("second 2").is("fault 1", 1).make("restore")
        .is("second 4", 2).is("fault 1", 3).is("fault 2", 2);
    run("phase 4; detector 0 x3; passing 0 1 0 x8; passing 1 0 0 x8; passing 2 0 0 x8; pair 0 1 2;"
        + "pair 0 2 3; second 2").is("fault 1", 1).make("restore; cut 1").is("second 4", 3)
        .is("fault 1", 4);
  }

  private void alarms() {
    due.says(PART, "3 ALARM.");
    run("alarm").is("fault 0; fault 3", 0).is("second 4", 1).is("fault 0", ALARM).is("fault 1", 0);
    run("second 3; alarm").is("second 4", 1).is("fault 1", 3);
    run("second 4").is("fault 0", 0);
  }

  private void firstOfThese() {
    due.says(PART, "FAULTS, the first of these:");
    String rows = "detector 0 x2; passing 0 0 0; passing 0 1 0 x4; passing 1 0 0 x5; pair 0 1 1;";
    String green = TWO_RESTS + rows + "ask 0; second 1;";
    run(green + "lamp 0 1; alarm; second 1").is("fault 0", LAMP).is("count 5", 1);
    run(green + "lamp 0 1; second 1").is("fault 0", LAMP);
    run(green + "lamp 1 1; alarm; second 1").is("fault 0", PAIR).is("count 5", 1);
    run(TWO_RESTS + "ask 0; second 1; lamp 0 1; alarm; second 1").is("fault 0", LAMP).is("fault 1", 1);
    run(TWO_RESTS + "ask 0; second 1; alarm; second 1").is("fault 0", ALARM);
  }

  private void numbers() {
    due.says(PART, "FAULTS have NUMBERS, 1, 2, .. as they are met.");
    Run x = run("phase 4").is("fault 2; count 5", 0);
    for (int number = 1; number <= 12; number++) {
      x.make("alarm").is("fault 2", number - 1).make("second 1").is("fault 2; count 5", number)
          .make("restore").is("fault 2", number);
    }
  }

  private void inItsSecond() {
    due.says(PART, "In its SECOND all PHASES that are GREEN or AMBER, by number, are RED and END in T");
    // Phase 2 is amber, 1 green, 0 and 3 red.
    String lights = "phase 4 x4; stage 2 - - -; stage 1 - - -; table 2 1 1 9 0; ask 2; ask 1; second 2;";
    run(lights).is("light 2", AMBER).is("told 2 6", 10).is("light 1", GREEN).make("alarm; second 1")
        .is("light 0; light 1; light 2; light 3", RED).is("told 1 6; told 2 6", 2)
        .is("told 0 6; told 3 6", NONE).is("told 1 2", 2).is("told 2 2", 3).is("told 0 2; told 3 2", 0);
    String places = "; second 1; alarm; second 1";
    run("phase 0 x3; stage 2 - 0 -" + places).is("count 1", 3 + 2 + 2).is("finding 1", 2);
    run("phase 0 x3; stage 0 - 1 -" + places).is("finding 1", 1);
    due.says(PART, "(FREE as in ENDING; the GAP of those that were GREEN);");
    run("phase 4 x3; stage 0 - - -; stage 1 - - -; conflict 0 1 20 1; conflict 2 0 9 0; ask 0;"
        + "second 4; alarm; second 1").is("told 1 7", 24).is("told 2 7", 4).is("told 0 7", 0);
    // FREE is at least T and the clearing: what was more stays.
    run(TWO_RESTS + "conflict 0 1 6 1; table 0 1 1 9 0; ask 0; ask 1; second 2").is("told 1 7", 16)
        .make("alarm; second 1").is("told 0 6", 2).is("told 1 7", 16);
    run("phase 0; stage 0 - - -; detector 0; passing 0 1 0 x2; passing 0 0 0 x5; second 4; alarm;"
        + "second 1").is("told 0 4", 2);
    // The gap of an amber one was told when its green ended.
    run("phase 0; phase 4; stage 0 - - -; stage 1 - - -; detector 0; passing 0 1 0; passing 0 0 0 x9;"
        + "table 0 3 3 9 0; ask 1; second 4").is("light 0", AMBER).is("told 0 4", 3)
        .make("second 1; alarm; second 1").is("told 0 4", 3).is("finding 0", 0);
    due.says(PART, "no STAGE is GREEN, HURRIED; an ALARM is gone.");
    // What is asked stays so, also of one that is amber, and of those that are red.
    run(lights + "ask 2; ask 0; alarm; second 1").is("told 2 8; told 0 8", 2).is("told 1 8", NONE)
        .is("stageOf 1", 0).make("second 4; restore").is("told 2 8; told 0 8", 2);
    run(TWO_RESTS + "ask 0; second 1; hurry 1; alarm; second 1").is("stageOf 0; stageOf 2", NONE)
        .is("stageOf 3", NONE).make("restore").is("second 4", 4).is("count 5", 1)
        .is("stageOf 0", NONE);
    run(TWO_RESTS + "ask 0; second 1; lamp 0 1; alarm; second 1").is("fault 0", LAMP).make("restore")
        .is("second 4", 4).is("count 5", 1);
  }

  private void stepsNotDone() {
    due.says(PART, "(d), (e) are not done.");
    run(TWO_RESTS + "ask 1; alarm; second 1").is("light 1", RED).is("told 1 8", 0).is("count 11", 0);
    run(TWO_RESTS + "table 0 1 1 1 0; ask 0; ask 1; second 2; alarm; second 1").is("told 0 6", 2)
        .is("told 0 2", 3).is("light 0", RED);
  }

  private void flash() {
    due.says(PART, "In the third SECOND behind it (and before (b)) all PHASES, by number, are FLASH.");
    run("phase 4 x8; alarm; second 1").is("light 0", RED).make("second 1").is("light 0", RED)
        .make("second 1").is("light 0; light 7", RED).is("count 11; told 7 2", 0).make("second 1")
        .is("light 0; light 3; light 7", FLASH).is("count 11", 8).is("told 7 2; told 7 3", 1)
        .make("second 4").is("count 11", 8).is("light 7", FLASH);
    run("phase 4; second 4; second 1; alarm; second 1").is("fault 1", 5).make("second 2")
        .is("light 0", RED).is("fault 3", 1).make("second 1").is("light 0", FLASH).is("fault 3", 2);
    // Restored before, and a new fault: three seconds behind the new one.
    run("phase 4; alarm; second 1; second 2; restore; alarm; second 1; second 2").is("light 0", RED)
        .make("second 1").is("light 0", FLASH);
    run("phase 4; alarm; second 1; second 2; restore; second 4").is("light 0", RED).is("count 11", 1);
  }

  private void untilRestore() {
    due.says(PART, "Only restore() ends it;");
    run(TWO_RESTS + "alarm; second 1; second 4 x30; ask 0; lamp 0 0").is("fault 3", 2)
        .is("hurry 0; alarm", STATE).is("light 0", FLASH).is("restore", 1).is("fault 3", 0)
        .is("light 0", RED).is("alarm", 1);
    due.says(PART, "until then (b) to (e) are not done.");
    String rows = "phase 0; stage 0 - - -; detector 0 x2; passing 0 1 0 x9; passing 1 0 0 x9; cut 0;";
    run(rows + "pair 0 1 1; phase 4; alarm; second 1").is("trace", 1).is("told 0 8", NONE)
        .make("ask 0; second 4; second 2").is("trace", 1).is("finding 0", 0).is("stageOf 0", NONE)
        .is("told 0 5", 0).is("count 5", 1).is("told 0 8", 1).make("restore; second 1")
        .is("stageOf 0", 0).is("told 0 5", 1).is("count 5", 1);
  }

  private void refusals() {
    due.says(PART, "REFUSALS, the first told; they change nothing:"
        + " BAD (there is no such number; a number is not as told),");
    String all = "phase 0 x8; conflict 0 1 1 1; stage 0 2 - - x6; detector 0 x12; table 0 9 9 9 9 x16;"
        + "pair 0 1 60 x6;";
    String bad = "phase 5; conflict 0 0 1 1; conflict 0 1 21 1; stage 0 0 - -; detector 8; cut 12;"
        + "passing 12 0 0; passing 0 128 0; passing 0 0 10001; table 8 5 20 3 9; table 0 0 20 3 9;"
        + "lamp 8 1; pair 0 0 1; pair 0 1 61; ask 8; hurry 6; second 5; light 8; was 8 0; was 0 61;"
        + "stageOf 4; place 6 0; place 0 4; told 8 0; told 0 12; length 12; count 12; finding 2; fault 4";
    run(all).keeps(bad, BAD);
    run(all + "alarm; second 1; cut 0").keeps(bad, BAD);
    due.says(PART, "STATE (not now),");
    run(all + "cut 0; second 1").keeps("phase 0; conflict 0 2 1 1; conflict 0 1 1 1; stage 0 1 - -", STATE)
        .keeps("stage 3 - - -; cut 0; passing 0 0 0; restore", STATE);
    run(all + "alarm; second 1").keeps("hurry 0; alarm; phase 0", STATE).make("second 3")
        .keeps("hurry 0; alarm; stage 0 1 - -", STATE);
    due.says(PART, "MEET (two PHASES CONFLICT),");
    run(all).keeps("conflict 0 2 1 1; conflict 2 0 0 20; stage 0 1 - -; stage - 1 2 0", MEET);
    due.says(PART, "FULL.");
    run(all).keeps("phase 0; stage 3 - - -; detector 0; table 0 5 20 3 0; pair 1 0 60", FULL);
    run(all + "passing 11 0 0 x200").keeps("passing 11 0 0", FULL).is("passing 10 0 0", 1);
  }
}
