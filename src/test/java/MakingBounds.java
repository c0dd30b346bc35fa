/** Promises 1 to 10: the bounds of what a crossing is made of, and each refusal. */
final class MakingBounds {
  private static final int BAD = Crossings.BAD, FULL = Crossings.FULL, STATE = Crossings.STATE;
  private static final int MEET = Crossings.MEET, NONE = Crossings.NONE;
  private static final int RED = 0, GREEN = 1;

  private final Sentences due;

  private MakingBounds(Sentences due) {
    this.due = due;
  }

  static void all(Sentences due) {
    MakingBounds bounds = new MakingBounds(due);
    bounds.newObject();
    bounds.phase();
    bounds.conflict();
    bounds.conflictRefusals();
    bounds.stage();
    bounds.stageNumbers();
    bounds.stageRefusals();
    bounds.detector();
    bounds.cut();
    bounds.passing();
    bounds.table();
    bounds.tableRefusals();
    bounds.lamp();
    bounds.pair();
    bounds.pairRefusals();
  }

  private Run run(String text) {
    return new Run(due, text);
  }

  private void newObject() {
    due.says("promise 1", "Nothing is there;");
    Run x = run("");
    for (int what = 0; what <= 11; what++) x.is("count " + what, 0);
    x.keeps("light 0; was 0 0; told 0 0; length 0; place 0 0; ask 0; hurry 0; cut 0; detector 0", BAD);
    x.keeps("lamp 0 1; lamp 0 0; passing 0 0 0; table 0 5 20 3 0; pair 0 1 1", BAD);
    x.keeps("conflict 0 1 2 2; stage 0 - - -; stage - - - -", BAD).keeps("restore", STATE);
    x.is("stageOf 0; stageOf 1; stageOf 2; stageOf 3", NONE).is("bound; trace", 0);
    x.is("finding 0; fault 0; fault 2; fault 3", 0).is("finding 1; fault 1", NONE);
    due.says("promise 1", "no SECOND was.");
    run("").is("count 0", 0).is("phase 0", 0).is("was 0 0", NONE).is("second 1", 1).is("was 0 0", RED)
        .is("count 0", 1);
    run("").is("second 4", 4).is("count 0", 4).is("count 11; trace; finding 0", 0);
  }

  private void phase() {
    due.says("promise 2", "A PHASE of a KIND: its number.");
    Run x = run("");
    for (int p = 0; p < 8; p++) x.is("phase " + p % 5, p).is("count 6", p + 1);
    for (int p = 0; p < 8; p++) x.is("told " + p + " 0", p % 5);
    due.says("promise 2", "BAD; STATE: a SECOND was; FULL.");
    run("").keeps("phase -1; phase 5; phase min; phase max", BAD).is("phase 4", 0);
    run("phase 0 x8").keeps("phase 0; phase 4", FULL).keeps("phase -1; phase 5", BAD);
    run("phase 0; second 0").is("phase 0", 1).make("second 1").keeps("phase 0", STATE)
        .keeps("phase 5; phase -1", BAD).make("second 4").keeps("phase 4", STATE);
    run("phase 0 x8; second 1").keeps("phase 0", STATE).keeps("phase 5", BAD);
    run("alarm; second 1; restore").keeps("phase 0", STATE);
  }

  private void conflict() {
    due.says("promise 3",
        "Two PHASES CONFLICT, CLEARING from the first to the second, and back, 0 .. 20: 1");
    String two = "phase 4 x2; stage 0 - - -; stage 1 - - -;";
    run(two).is("conflict 0 1 0 0", 1).is("bound", 2 * 23).keeps("stage 0 1 - -", MEET);
    run(two).is("conflict 0 1 20 20", 1).is("bound", 2 * 43);
    run(two).is("conflict 0 1 19 20", 1).is("bound", 2 * 43);
    run(two).is("conflict 0 1 20 19", 1).is("bound", 2 * 43);
    String first = "table 0 1 1 0 0; table 1 1 1 0 0; ask 0; ask 1; second 2";
    run(two).is("conflict 0 1 1 5", 1).make(first).is("told 1 7", 2).make("second 1; ask 0; second 1")
        .is("told 0 7", 3 + 5);
    run(two).is("conflict 1 0 5 1", 1).make(first).is("told 1 7", 2).make("second 1; ask 0; second 1")
        .is("told 0 7", 3 + 5);
    run("phase 4 x8").is("conflict 7 0 3 4", 1).is("conflict 0 6 3 4", 1)
        .keeps("stage 0 7 - -; stage 6 0 - -", MEET).is("stage 6 7 - -", 0);
    due.says("promise 3", "(also when they did: these are told in place of the old ones).");
    run(two + "conflict 0 1 20 20").is("conflict 0 1 1 5", 1).is("bound", 2 * 28).make(first)
        .is("told 1 7", 2).make("second 1; ask 0; second 1").is("told 0 7", 8);
    run(two + "conflict 0 1 20 20").is("conflict 1 0 5 1", 1).is("bound", 2 * 28).make(first)
        .is("told 1 7", 2).is("conflict 1 0 5 1", STATE);
    run(two + "conflict 0 1 3 4").is("conflict 0 1 3 4", 1).is("bound", 2 * 27);
  }

  private void conflictRefusals() {
    due.says("promise 3", "BAD (also the same one);");
    Run x = run("phase 0 x3; conflict 0 1 3 4");
    x.keeps("conflict 0 0 1 1; conflict 1 1 1 1; conflict 2 2 0 0", BAD);
    x.keeps("conflict -1 1 1 1; conflict 3 1 1 1; conflict - 1 1 1; conflict min 1 1 1", BAD);
    x.keeps("conflict 0 -1 1 1; conflict 0 3 1 1; conflict 0 - 1 1; conflict 0 max 1 1", BAD);
    x.keeps("conflict 0 2 -1 1; conflict 0 2 21 1; conflict 0 2 min 1; conflict 0 2 max 1", BAD);
    x.keeps("conflict 0 2 1 -1; conflict 0 2 1 21; conflict 0 2 1 min; conflict 0 2 1 max", BAD);
    x.keeps("conflict 0 1 21 1; conflict 0 1 1 21; conflict 0 2 - 1; conflict 0 2 1 -", BAD);
    x.is("stage 0 2 - -", 0).is("bound", 20 + 3 + 4);
    due.says("promise 3", "STATE: a SECOND was;");
    run("phase 0 x2; second 0").is("conflict 0 1 1 1", 1).make("second 1")
        .keeps("conflict 0 1 2 2; conflict 1 0 1 1", STATE)
        .keeps("conflict 0 0 1 1; conflict 0 1 21 0; conflict 0 1 0 -1; conflict 0 2 1 1", BAD);
    due.says("promise 3", "MEET: a STAGE has both.");
    for (int one = 0; one < 4; one++) {
      int other = (one + 1) % 4;
      Run y = run("phase 0 x3;" + placed(one, 0, other, 1)).keeps("conflict 0 1 1 1", MEET);
      y.keeps("conflict 1 0 0 0", MEET).keeps("conflict 1 0 0 21; conflict 0 1 -1 0", BAD);
      y.is("conflict 0 2 1 1; conflict 2 1 1 1", 1);
    }
    run("phase 0 x3; stage 2 - - - x5; stage 1 0 - -").keeps("conflict 0 1 1 1", MEET);
    run("phase 0 x2; stage 0 - - -; stage 1 - - -").is("conflict 0 1 1 1", 1);
    run("phase 0 x2; stage 0 1 - -; second 1").keeps("conflict 0 1 1 1", STATE);
  }

  private static String placed(int place, int phase, int otherPlace, int otherPhase) {
    String text = "stage";
    for (int k = 0; k < 4; k++) {
      if (k == place) text += " " + phase;
      else text += k == otherPlace ? " " + otherPhase : " -";
    }
    return text;
  }

  private void stage() {
    due.says("promise 4", "A STAGE of PHASES at its PLACES, NONE for NOTHING: its number.");
    for (int k = 0; k < 4; k++) {
      Run x = run("phase 0 x8").is(placed(k, 7, k, 7), 0);
      for (int other = 0; other < 4; other++) x.is("place 0 " + other, other == k ? 7 : NONE);
    }
    Run y = run("phase 0 x8").is("stage 4 5 6 7", 0).is("stage 3 2 1 0", 1);
    for (int k = 0; k < 4; k++) y.is("place 0 " + k, 4 + k).is("place 1 " + k, 3 - k);
    y.is("count 4", 0);
  }

  private void stageNumbers() {
    due.says("promise 4", "BAD: a number is another one;");
    String[] numbers = {"2", "-1", "-2", "-3", "-4", "-6", "8", "min", "max"};
    for (String number : numbers) {
      for (int k = 0; k < 4; k++) {
        String[] words = {"-", "-", "-", "-"};
        words[(k + 1) % 4] = "0";
        words[k] = number;
        run("phase 0 x2").keeps("stage " + String.join(" ", words), BAD).is("count 7", 0);
      }
    }
    due.says("promise 4", "one stands twice;");
    for (int one = 0; one < 4; one++) {
      for (int other = one + 1; other < 4; other++) {
        run("phase 0 x2").keeps(placed(one, 1, other, 1), BAD).is(placed(one, 1, other, 0), 0);
      }
    }
    run("phase 0 x4").keeps("stage 0 1 2 0; stage 3 3 3 3; stage 0 1 1 2", BAD).is("stage 0 1 2 3", 0);
    due.says("promise 4", "there is none at all;");
    run("phase 0").keeps("stage - - - -", BAD).is("stage - - - 0", 0);
  }

  private void stageRefusals() {
    due.says("promise 4", "STATE: a SECOND was; MEET; FULL.");
    String wrong = "stage - - - -; stage 0 0 - -; stage 3 - - -; stage 0 -1 - -";
    run("phase 0 x3; conflict 0 1 0 0; second 0").is("stage 0 2 - -", 0).keeps("stage 0 1 - -", MEET)
        .keeps("stage 0 1 1 -; stage 0 1 3 -;" + wrong, BAD).make("second 1")
        .keeps("stage 0 - - -; stage 0 1 - -", STATE).keeps("stage 0 1 1 -;" + wrong, BAD);
    run("phase 0 x3; conflict 1 0 0 0; stage 2 - - - x5").is("stage 0 2 - -", 5)
        .keeps("stage 2 - - -", FULL).keeps("stage 0 1 - -; stage - 2 1 0", MEET).keeps(wrong, BAD)
        .make("second 1").keeps("stage 2 - - -; stage 0 1 - -", STATE).keeps(wrong, BAD);
  }

  private void detector() {
    due.says("promise 5", "A PHASE has a new DETECTOR, with ROWS of no length: its number.");
    run("phase 0; phase 4").is("detector 1", 0).is("told 1 1", 0).is("told 0 1", NONE)
        .is("length 0", 0).is("detector 0", 1).is("told 0 1", 1).is("count 8", 2)
        .make("second 1").is("detector 0", 2).is("told 0 1", 2).make("alarm; second 1")
        .is("detector 0", 3).is("length 3", 0);
    due.says("promise 5", "(The one that it had is there still, of no PHASE.)");
    run("phase 0; phase 0; detector 0; passing 0 1 0 x3").is("detector 0", 1).is("length 0", 3)
        .is("told 0 1", 1).is("told 1 1", NONE).make("passing 1 0 0; second 1").is("told 0 8", NONE)
        .is("passing 0 1 0", 4).is("cut 0", 4).is("told 0 1", 1).is("length 1", 1);
    run("phase 0; detector 0; cut 0").is("detector 0", 1).is("length 0", NONE).is("length 1", 0);
    due.says("promise 5", "BAD; FULL.");
    run("").keeps("detector 0; detector -", BAD);
    run("phase 0 x2").keeps("detector -1; detector 2; detector -; detector min; detector max", BAD)
        .is("detector 1", 0);
    run("phase 0 x2; detector 1; detector 0 x10").is("detector 0", 11).is("count 8", 12)
        .keeps("detector 0; detector 1", FULL).keeps("detector 2; detector -1", BAD)
        .is("told 1 1", 0).make("cut 0").keeps("detector 1", FULL);
  }

  private void cut() {
    due.says("promise 6", "A DETECTOR is CUT OFF: how long its ROWS were.");
    run("phase 0; detector 0 x3; passing 1 0 0; passing 2 0 0 x200").is("cut 0", 0).is("cut 1", 1)
        .is("cut 2", 200).is("length 0; length 1; length 2", NONE).is("told 0 1", 2);
    run("phase 0; detector 0 x12; passing 11 0 0 x2").is("cut 11", 2).is("length 10", 0);
    due.says("promise 6", "BAD; STATE: it is.");
    run("").keeps("cut 0; cut -1", BAD);
    run("phase 0; detector 0 x2; passing 0 1 0").keeps("cut -1; cut 2; cut -; cut min; cut max", BAD)
        .is("cut 0", 1).keeps("cut 0", STATE).keeps("cut 2", BAD).is("length 1", 0).is("cut 1", 0)
        .keeps("cut 1; cut 0", STATE);
  }

  private void passing() {
    due.says("promise 7", "A place more of both ROWS of a DETECTOR: how long they are.");
    Run x = run("phase 0; detector 0 x2");
    for (int i = 1; i <= 200; i++) x.is("passing 0 " + (i - 100) + " " + i * 50, i);
    x.is("length 0", 200).is("length 1", 0).is("passing 1 0 0", 1);
    due.says("promise 7", "BAD: passings not -128 .. 127, occupied not 0 .. 10000;");
    run("phase 0; detector 0").keeps("passing 0 -129 0; passing 0 128 0; passing 0 min 0", BAD)
        .keeps("passing 0 max 0; passing 0 256 0; passing 0 -256 0", BAD)
        .keeps("passing 0 0 -1; passing 0 0 10001; passing 0 0 min; passing 0 0 max", BAD)
        .keeps("passing 0 0 65536; passing 0 128 10001; passing -1 0 0; passing 1 0 0", BAD)
        .is("length 0", 0).is("passing 0 -128 0", 1).is("passing 0 127 10000", 2)
        .is("passing 0 -127 9999", 3).is("passing 0 126 1", 4);
    due.says("promise 7", "STATE: it is CUT OFF; FULL.");
    String wrong = "passing 0 128 0; passing 0 -129 0; passing 0 0 -1; passing 0 0 10001; passing 2 0 0";
    run("phase 0; detector 0 x2; passing 0 0 0 x199").is("passing 0 1 1", 200)
        .keeps("passing 0 0 0", FULL).keeps(wrong, BAD).is("passing 1 0 0", 1).make("cut 0")
        .keeps("passing 0 0 0", STATE).keeps(wrong, BAD).is("passing 1 0 0", 2);
    run("phase 0; detector 0; cut 0").keeps("passing 0 0 0", STATE).keeps("passing 0 0 -1", BAD);
  }

  private void table() {
    due.says("promise 8", "An ORDER: THE TABLE tells this of a PHASE from SECOND at on:");
    Run x = run("phase 0 x2; table 1 60 120 9 1; table 0 1 1 0 2");
    x.make("second 1").is("told 1 9; told 0 9", 5).is("told 1 10", 20).is("told 1 11", 3);
    x.make("second 1").is("told 1 9", 60).is("told 1 10", 120).is("told 1 11", 9).is("told 0 9", 5);
    x.make("second 1").is("told 0 9; told 0 10", 1).is("told 0 11", 0).is("told 1 9", 60);
    run("phase 0; table 0 9 9 9 0").is("told 0 9", 5).make("second 0").is("told 0 9", 5)
        .make("second 1").is("told 0 9", 9);
    run("phase 0; table 0 9 9 9 3; second 4").is("told 0 9", 9).make("second 4").is("told 0 9", 9);
    run("phase 0; table 0 9 9 9 4; second 4").is("told 0 9", 5).make("second 1").is("told 0 9", 9);
    due.says("promise 8", "how many ORDERS there are.");
    run("phase 0").is("table 0 5 20 3 1", 1).is("table 0 5 20 3 max", 2).is("table 0 5 20 3 0", 3)
        .make("second 1").is("count 9", 2).is("table 0 5 20 3 1", 3).make("second 1").is("count 9", 1)
        .is("table 0 5 20 3 2", 2).make("second 4").is("count 9", 1);
  }

  private void tableRefusals() {
    due.says("promise 8", "BAD (also at below NOW);");
    run("phase 0").keeps("table -1 5 20 3 0; table 1 5 20 3 0; table - 5 20 3 0", BAD)
        .keeps("table 0 0 20 3 0; table 0 61 61 3 0; table 0 min 20 3 0; table 0 max max 3 0", BAD)
        .keeps("table 0 6 5 3 0; table 0 5 121 3 0; table 0 5 min 3 0; table 0 5 max 3 0", BAD)
        .keeps("table 0 5 20 -1 0; table 0 5 20 10 0; table 0 5 20 min 0; table 0 5 20 max 0", BAD)
        .keeps("table 0 5 20 3 -1; table 0 5 20 3 min; table 0 5 20 3 -", BAD).is("count 9", 0)
        .is("table 0 1 1 0 0", 1).is("table 0 60 60 9 0", 2).is("table 0 60 120 9 max", 3);
    run("phase 0; second 3").keeps("table 0 5 20 3 2; table 0 5 20 3 0; table 0 5 20 3 -1", BAD)
        .is("table 0 9 9 9 3", 1).make("second 1").is("told 0 9", 9)
        .keeps("table 0 5 20 3 3", BAD).is("table 0 5 20 3 4", 1);
    due.says("promise 8", "FULL.");
    run("phase 0; table 0 1 1 1 0; table 0 2 2 2 1; table 0 9 9 9 9 x13").is("table 0 9 9 9 9", 16)
        .keeps("table 0 9 9 9 9", FULL).keeps("table 0 9 9 9 -1; table 1 9 9 9 9", BAD)
        .make("second 1").is("table 0 9 9 9 9", 16).keeps("table 0 9 9 9 9; table 0 9 9 9 1", FULL)
        .keeps("table 0 9 9 9 0; table 0 0 9 9 9", BAD).make("second 1").is("table 0 8 8 8 9", 16);
    run("phase 0; table 0 9 9 9 0 x16; second 1").is("count 9", 0).is("table 0 9 9 9 9", 1);
  }

  private void lamp() {
    due.says("promise 9", "The lamp of a PHASE is out, or not: whether it was out (1, 0).");
    run("phase 0 x8").is("lamp 7 0", 0).is("lamp 7 1", 0).is("lamp 7 1", 1).is("lamp 6 1", 0)
        .is("lamp 0 0", 0).is("lamp 7 0", 1).is("lamp 7 0", 0).is("lamp 6 0", 1);
    run("phase 4; stage 0 - - -; ask 0; lamp 0 1; second 1").is("light 0", GREEN).is("fault 0", 0)
        .make("lamp 0 0; second 1").is("fault 0", 0).make("lamp 0 1; second 1").is("fault 0", 1)
        .is("lamp 0 1", 1);
    due.says("promise 9", "BAD.");
    run("").keeps("lamp 0 1; lamp 0 0", BAD);
    run("phase 4 x2; stage 0 1 - -; ask 0; second 1; lamp 1 1")
        .keeps("lamp -1 1; lamp 2 1; lamp - 0; lamp min 1; lamp max 0; lamp 2 0", BAD)
        .is("lamp 1 0", 1).is("lamp 0 0", 0).is("second 2", 2);
  }

  /** Two detectors that differ in each of many seconds, of one phase in no stage. */
  private Run differing(int span, int places) {
    return run("phase 4; detector 0 x2; passing 0 1 0 x" + places + "; passing 1 0 0 x" + places)
        .is("pair 0 1 " + span, 0);
  }

  private void pair() {
    due.says("promise 10",
        "Two DETECTORS are a pair that may differ in less than span (1 .. 60) SECONDS running:");
    differing(1, 3).is("second 2", 1).is("fault 0", 2).is("fault 1", 0);
    differing(2, 3).is("second 1", 1).is("fault 0", 0).is("second 2", 1).is("fault 1", 1);
    differing(59, 70).make("second 4 x14; second 2").is("count 0", 58).is("fault 0", 0)
        .is("second 4", 1).is("fault 1", 58);
    differing(60, 70).make("second 4 x14; second 3").is("count 0", 59).is("fault 0", 0)
        .is("second 4", 1).is("fault 0", 2).is("fault 1", 59);
    differing(60, 59).make("second 4 x16").is("count 0", 64).is("fault 0", 0);
    due.says("promise 10", "its number.");
    Run x = run("phase 0; detector 0 x12");
    for (int i = 0; i < 6; i++) x.is("pair " + i + " " + (11 - i) + " 60", i).is("count 10", i + 1);
  }

  private void pairRefusals() {
    due.says("promise 10", "BAD (also the same one);");
    run("").keeps("pair 0 1 1; pair 0 0 1", BAD);
    run("phase 4; detector 0 x2; passing 0 1 0 x3; passing 1 0 0 x3")
        .keeps("pair 0 0 1; pair 1 1 1; pair -1 0 1; pair 2 0 1; pair 0 -1 1; pair 0 2 1", BAD)
        .keeps("pair - 0 1; pair 0 - 1; pair min 0 1; pair 0 max 1; pair 2 2 1", BAD)
        .keeps("pair 0 1 0; pair 0 1 61; pair 0 1 -1; pair 0 1 min; pair 0 1 max", BAD)
        .is("count 10", 0).is("pair 0 1 60", 0).is("pair 1 0 1", 1).is("second 1", 1).is("fault 0", 2);
    due.says("promise 10", "FULL: 6 are there.");
    run("phase 4; detector 0 x2; passing 0 1 0 x3; passing 1 0 0 x3; pair 0 1 60 x5")
        .is("count 10", 5).is("pair 0 1 60", 5).keeps("pair 0 1 1; pair 1 0 60", FULL)
        .keeps("pair 0 0 1; pair 0 1 0; pair 0 1 61; pair 0 2 1", BAD).is("count 10", 6)
        .is("second 4", 4).keeps("pair 0 1 1", FULL);
  }
}
