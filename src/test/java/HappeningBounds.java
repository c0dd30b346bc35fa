/** Promises 11 to 15: asking, hurrying, seconds, alarm and restore, at their bounds. */
final class HappeningBounds {
  private static final int BAD = Crossings.BAD, STATE = Crossings.STATE, NONE = Crossings.NONE;
  private static final int RED = 0, GREEN = 1, AMBER = 2, FLASH = 3;
  private static final String TWO_RESTS = "phase 4 x2; stage 0 - - -; stage 1 - - -;";

  private final Sentences due;

  private HappeningBounds(Sentences due) {
    this.due = due;
  }

  static void all(Sentences due) {
    HappeningBounds bounds = new HappeningBounds(due);
    bounds.ask();
    bounds.hurry();
    bounds.second();
    bounds.alarm();
    bounds.restore();
  }

  private Run run(String text) {
    return new Run(due, text);
  }

  private void ask() {
    due.says("promise 11", "A PHASE is ASKED since NOW: 1;");
    run("phase 4 x8").is("told 7 8", NONE).is("ask 7", 1).is("told 7 8", 0).is("told 6 8", NONE)
        .make("second 4").is("ask 6", 1).is("told 6 8", 4);
    run(TWO_RESTS + "table 0 1 1 2 0; ask 0; ask 1; second 2").is("light 0", AMBER).is("ask 0", 1)
        .is("told 0 8", 2);
    run("phase 0; alarm; second 1").is("told 0 8", 0);
    run("phase 4; alarm; second 1").is("ask 0", 1).is("told 0 8", 1).make("second 3")
        .is("light 0", FLASH).keeps("ask 0", 0).is("told 0 8", 1);
    due.says("promise 11", "0: it is ASKED, or GREEN.");
    run("phase 4 x2; ask 0; second 2").keeps("ask 0", 0).is("told 0 8", 0).is("ask 1", 1)
        .is("told 1 8", 2);
    run("phase 0; second 1").is("told 0 8", 0).keeps("ask 0", 0);
    run(TWO_RESTS + "ask 0; second 1").is("light 0", GREEN).keeps("ask 0", 0).is("told 0 8", NONE);
    due.says("promise 11", "BAD.");
    run("").keeps("ask 0; ask -1", BAD);
    run(TWO_RESTS).keeps("ask -1; ask 2; ask -; ask 8; ask min; ask max", BAD).is("stageOf 1", NONE);
  }

  private void hurry() {
    due.says("promise 12", "A STAGE is HURRIED, none else: 1;");
    run("phase 4; stage 0 - - - x6").is("stageOf 2", NONE).is("hurry 5", 1).is("stageOf 2", 5)
        .is("hurry 0", 1).is("stageOf 2", 0).is("hurry 0", 1).make("second 1").is("stageOf 0", 0)
        .is("stageOf 2", NONE).make("second 4").is("stageOf 0", 0);
    due.says("promise 12", "0: it is GREEN (and what was HURRIED is so still).");
    run(TWO_RESTS + "ask 0; second 1").keeps("hurry 0", 0).is("stageOf 2", NONE).is("hurry 1", 1)
        .keeps("hurry 0", 0).is("stageOf 2", 1).make("second 4; second 4").is("stageOf 0", 1)
        .is("stageOf 2", NONE);
    // A stage that shares the green phase is another one, and not green.
    run("phase 4; stage 0 - - -; stage 0 - - -; ask 0; second 1").is("stageOf 0", 0).is("hurry 1", 1);
    // No longer green: amber has begun.
    run(TWO_RESTS + "conflict 0 1 9 9; table 0 1 1 2 0; ask 0; ask 1; second 2").is("stageOf 0", NONE)
        .is("hurry 0", 1).is("stageOf 2", 0);
    due.says("promise 12", "BAD; STATE: a FAULT.");
    run("phase 4").keeps("hurry 0; hurry -1; hurry -", BAD);
    run(TWO_RESTS + "hurry 1").keeps("hurry -1; hurry 2; hurry -; hurry 6; hurry min; hurry max", BAD)
        .is("stageOf 2", 1);
    run(TWO_RESTS + "alarm").is("hurry 0", 1).make("second 1").keeps("hurry 0; hurry 1", STATE)
        .keeps("hurry 2; hurry -1", BAD).make("second 3").keeps("hurry 0", STATE).keeps("hurry 2", BAD)
        .is("stageOf 2", NONE).make("restore").is("hurry 0", 1);
  }

  private void second() {
    due.says("promise 13", "n SECONDS (0 .. 4) pass,");
    Run x = run("phase 4; table 0 9 9 9 0; alarm").keeps("second 0", 0).is("count 0", 0)
        .is("told 0 9", 5).is("count 5", 0);
    x.is("second 1", 1).is("told 0 9", 9).is("count 5", 1);
    x = run("phase 4");
    for (int n = 0; n <= 4; n++) x.is("second " + n, n).is("count 0", n * (n + 1) / 2);
    x.keeps("second 0", 0);
    due.says("promise 13", "none behind one in which a FAULT is met: how many.");
    for (int span = 1; span <= 4; span++) {
      for (int n = 0; n <= 4; n++) {
        int passed = Math.min(n, span);
        run("phase 4; detector 0 x2; passing 0 1 0 x4; passing 1 0 0 x4; pair 0 1 " + span)
            .is("second " + n, passed).is("count 0", passed).is("count 5", n < span ? 0 : 1);
      }
    }
    run("alarm").is("second 0", 0).is("count 5", 0).is("second 4", 1).is("second 4", 4)
        .is("count 0", 5).make("restore").is("second 4", 4).is("count 0", 9);
    due.says("promise 13", "BAD.");
    run(TWO_RESTS + "table 0 9 9 9 0; ask 0; alarm")
        .keeps("second -1; second 5; second min; second max", BAD).is("told 0 9", 5).is("count 9", 1)
        .is("count 0", 0).is("second 4", 1).keeps("second -1; second 5; second -", BAD).is("count 0", 1);
  }

  private void alarm() {
    due.says("promise 14", "An ALARM, met in the next SECOND: 1.");
    run(TWO_RESTS + "ask 0; second 1").is("alarm", 1).is("fault 0; count 5", 0).is("light 0", GREEN)
        .is("second 0", 0).is("count 5", 0).is("alarm", 1).is("second 1", 1).is("count 5", 1)
        .is("fault 0", 3).is("fault 1", 1).make("restore").is("second 4", 4).is("count 5", 1);
    due.says("promise 14", "STATE: a FAULT.");
    run("phase 4").is("alarm", 1).make("second 1").keeps("alarm", STATE).make("second 2")
        .keeps("alarm", STATE).make("second 1").is("light 0", FLASH).keeps("alarm", STATE)
        .make("restore; second 2").is("count 5", 1).is("alarm", 1);
  }

  private void restore() {
    due.says("promise 15", "No FAULT any more: all PHASES, by number, are RED"
        + " (each a change, as in part 3, also of one that is RED already): 1.");
    run("phase 4 x8; alarm; second 1").is("restore", 1).is("fault 3", 0).is("count 11", 8)
        .is("told 0 2; told 7 3", 1).is("light 0; light 7", RED);
    run("phase 4 x8; alarm; second 1; second 2").is("restore", 1).is("count 11", 8)
        .make("second 4").is("light 0", RED).is("count 11", 8);
    run("phase 4 x8; alarm; second 1; second 3").is("light 7", FLASH).is("restore", 1)
        .is("light 0; light 7", RED).is("count 11", 16).is("told 7 2; told 7 3", 2).is("told 7 4", 0);
    run(TWO_RESTS + "conflict 0 1 9 9; ask 0; second 2; alarm; second 1; restore; ask 1")
        .is("told 1 7", 11).is("told 0 6", 2).make("second 4 x2").is("count 0", 11).is("light 1", RED)
        .make("second 1").is("light 1", GREEN);
    run("alarm; second 1").is("restore", 1).is("count 11", 0);
    due.says("promise 15", "STATE: there is none.");
    run("phase 4").keeps("restore", STATE).make("alarm").keeps("restore", STATE).make("second 1")
        .is("restore", 1).keeps("restore", STATE).is("count 11", 1).make("second 2")
        .keeps("restore", STATE).is("fault 0", 3);
    run(TWO_RESTS + "ask 0; second 1").keeps("restore", STATE).is("light 0", GREEN);
  }
}
