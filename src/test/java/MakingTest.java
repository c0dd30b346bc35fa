/** Promises 1 to 10: what a crossing is made of, with each refusal and their order. */
public final class MakingTest {
  private static final int BAD = Crossings.BAD, FULL = Crossings.FULL, STATE = Crossings.STATE;
  private static final int MEET = Crossings.MEET, NONE = Crossings.NONE;
  private static final int MIN = Integer.MIN_VALUE, MAX = Integer.MAX_VALUE;
  private static final Due due = new Due();

  public static void main(String[] args) {
    newObject();
    phases();
    conflicts();
    conflictRefusals();
    stages();
    stageRefusals();
    detectors();
    cutting();
    passings();
    passingRefusals();
    tables();
    tableRefusals();
    ordersOfOneSecond();
    lamps();
    pairs();
    due.end("MakingTest");
  }

  private static void newObject() {
    CrossingKeeper x = new CrossingKeeper();
    for (int what = 0; what <= 11; what++) due.is("1 count(" + what + ")", x.count(what), 0);
    for (int what = 0; what <= 3; what++) due.is("1 stageOf(" + what + ")", x.stageOf(what), NONE);
    due.is("1 finding(0)", x.finding(0), 0);
    due.is("1 finding(1)", x.finding(1), NONE);
    due.is("1 fault(0)", x.fault(0), 0);
    due.is("1 fault(1)", x.fault(1), NONE);
    due.is("1 fault(2)", x.fault(2), 0);
    due.is("1 fault(3)", x.fault(3), 0);
    due.is("1 trace", x.trace(), 0);
    due.is("1 bound", x.bound(), 0);
    due.is("1 light(0)", x.light(0), BAD);
    due.is("1 length(0)", x.length(0), BAD);
    due.is("1 place(0, 0)", x.place(0, 0), BAD);
    due.is("1 second(4)", x.second(4), 4);
    due.is("1 NOW", x.count(0), 4);
  }

  private static void phases() {
    CrossingKeeper x = new CrossingKeeper();
    due.is("2 kind -1", x.phase(-1), BAD);
    due.is("2 kind 5", x.phase(5), BAD);
    due.is("2 kind MIN", x.phase(MIN), BAD);
    due.is("2 kind MAX", x.phase(MAX), BAD);
    due.is("2 no phase yet", x.count(6), 0);
    for (int p = 0; p < 8; p++) due.is("2 phase " + p, x.phase(p % 5), p);
    for (int p = 0; p < 8; p++) due.is("2 kind of " + p, x.told(p, 0), p % 5);
    due.is("2 a ninth", x.phase(0), FULL);
    due.is("2 BAD before FULL", x.phase(5), BAD);
    due.is("2 eight are there", x.count(6), 8);
    x.second(0);
    due.is("2 second(0) is none", x.phase(0), FULL);
    x.second(1);
    due.is("2 STATE before FULL", x.phase(0), STATE);
    due.is("2 BAD before STATE", x.phase(-1), BAD);
  }

  private static void conflicts() {
    CrossingKeeper x = Crossings.ofKinds(0, 0, 0);
    x.stage(0, NONE, NONE, NONE);
    due.is("3 0 and 20", x.conflict(0, 1, 0, 20), 1);
    due.is("3 greatest clearing 20", x.bound(), 20 + 3 + 20);
    due.is("3 told anew", x.conflict(0, 1, 7, 2), 1);
    due.is("3 in place of the old ones", x.bound(), 20 + 3 + 7);
    due.is("3 told anew from the other", x.conflict(1, 0, 4, 6), 1);
    due.is("3 there is to the second", x.bound(), 20 + 3 + 6);
    due.is("3 they meet", x.stage(0, 1, NONE, NONE), MEET);
    due.is("3 they meet the other way", x.stage(1, 2, NONE, 0), MEET);
    due.is("3 others do not", x.stage(0, 2, NONE, NONE), 1);
  }

  private static void conflictRefusals() {
    CrossingKeeper x = Crossings.ofKinds(0, 0, 0);
    due.is("3 the same", x.conflict(1, 1, 2, 2), BAD);
    due.is("3 p -1", x.conflict(-1, 1, 2, 2), BAD);
    due.is("3 p 3", x.conflict(3, 1, 2, 2), BAD);
    due.is("3 q NONE", x.conflict(0, NONE, 2, 2), BAD);
    due.is("3 q 3", x.conflict(0, 3, 2, 2), BAD);
    due.is("3 there -1", x.conflict(0, 1, -1, 2), BAD);
    due.is("3 there 21", x.conflict(0, 1, 21, 2), BAD);
    due.is("3 back -1", x.conflict(0, 1, 2, -1), BAD);
    due.is("3 back 21", x.conflict(0, 1, 2, 21), BAD);
    due.is("3 none of these took", x.stage(0, 1, NONE, NONE), 0);
    due.is("3 a stage has both", x.conflict(1, 0, 2, 2), MEET);
    due.is("3 BAD before MEET", x.conflict(1, 0, 2, 99), BAD);
    due.is("3 only one of both", x.conflict(1, 2, 2, 2), 1);
    x.second(1);
    due.is("3 STATE before MEET", x.conflict(1, 0, 2, 2), STATE);
    due.is("3 BAD before STATE", x.conflict(1, 1, 2, 2), BAD);
    due.is("3 STATE", x.conflict(0, 2, 2, 2), STATE);
  }

  private static void stages() {
    CrossingKeeper x = Crossings.ofKinds(0, 1, 2, 3, 4);
    due.is("4 four places", x.stage(3, 1, 4, 0), 0);
    due.is("4 the last place alone", x.stage(NONE, NONE, NONE, 2), 1);
    due.is("4 a gap between", x.stage(0, NONE, 2, NONE), 2);
    int[][] want = {{3, 1, 4, 0}, {NONE, NONE, NONE, 2}, {0, NONE, 2, NONE}};
    for (int s = 0; s < want.length; s++) {
      for (int k = 0; k < 4; k++) due.is("4 place " + s + " " + k, x.place(s, k), want[s][k]);
    }
    due.is("4 the same again", x.stage(0, NONE, 2, NONE), 3);
    due.is("4 fifth", x.stage(0, NONE, NONE, NONE), 4);
    due.is("4 sixth", x.stage(1, NONE, NONE, NONE), 5);
    due.is("4 seventh", x.stage(2, NONE, NONE, NONE), FULL);
    due.is("4 six are there", x.count(7), 6);
  }

  private static void stageRefusals() {
    CrossingKeeper x = Crossings.ofKinds(0, 0, 0);
    x.conflict(0, 1, 1, 1);
    due.is("4 a", x.stage(3, NONE, NONE, NONE), BAD);
    due.is("4 b", x.stage(0, -1, NONE, NONE), BAD);
    due.is("4 c", x.stage(0, NONE, MIN, NONE), BAD);
    due.is("4 d", x.stage(0, NONE, NONE, MAX), BAD);
    due.is("4 -4 is no NONE", x.stage(0, -4, NONE, NONE), BAD);
    due.is("4 -6 is no NONE", x.stage(0, -6, NONE, NONE), BAD);
    due.is("4 twice", x.stage(0, 2, NONE, 0), BAD);
    due.is("4 none at all", x.stage(NONE, NONE, NONE, NONE), BAD);
    due.is("4 BAD before MEET", x.stage(0, 1, 1, NONE), BAD);
    due.is("4 MEET", x.stage(0, NONE, NONE, 1), MEET);
    for (int s = 0; s < 6; s++) x.stage(2, NONE, NONE, NONE);
    due.is("4 MEET before FULL", x.stage(0, 1, NONE, NONE), MEET);
    due.is("4 FULL", x.stage(0, NONE, NONE, NONE), FULL);
    x.second(1);
    due.is("4 STATE before MEET", x.stage(0, 1, NONE, NONE), STATE);
    due.is("4 STATE before FULL", x.stage(0, NONE, NONE, NONE), STATE);
    due.is("4 BAD before STATE", x.stage(NONE, NONE, NONE, NONE), BAD);
  }

  private static void detectors() {
    CrossingKeeper x = Crossings.ofKinds(0, 4);
    due.is("5 none at first", x.told(0, 1), NONE);
    due.is("5 p -1", x.detector(-1), BAD);
    due.is("5 p 2", x.detector(2), BAD);
    due.is("5 first", x.detector(0), 0);
    due.is("5 no length", x.length(0), 0);
    due.is("5 of a REST", x.detector(1), 1);
    x.passing(0, 1, 1);
    x.second(1);
    due.is("5 another for the phase, after a SECOND", x.detector(0), 2);
    due.is("5 it has that", x.told(0, 1), 2);
    due.is("5 the old one is there", x.length(0), 1);
    due.is("5 and grows", x.passing(0, 1, 1), 2);
    due.is("5 the new one is empty", x.length(2), 0);
    for (int d = 3; d < 12; d++) due.is("5 detector " + d, x.detector(0), d);
    due.is("5 a thirteenth", x.detector(1), FULL);
    due.is("5 BAD before FULL", x.detector(2), BAD);
    due.is("5 FULL changes nothing", x.told(1, 1), 1);
    due.is("5 twelve", x.count(8), 12);
  }

  private static void cutting() {
    CrossingKeeper x = Crossings.ofKinds(0);
    due.is("6 none is there", x.cut(0), BAD);
    x.detector(0);
    x.detector(0);
    Crossings.places(x, 1, 3, 5);
    due.is("6 d -1", x.cut(-1), BAD);
    due.is("6 d 2", x.cut(2), BAD);
    due.is("6 of no length", x.cut(0), 0);
    due.is("6 of length 3", x.cut(1), 3);
    due.is("6 again", x.cut(1), STATE);
    due.is("6 it has no rows", x.length(1), NONE);
    due.is("6 it is the phase's still", x.told(0, 1), 1);
    due.is("6 a new one behind it", x.detector(0), 2);
    due.is("6 has rows", x.passing(2, 0, 0), 1);
  }

  private static void passings() {
    CrossingKeeper x = Crossings.ofKinds(0);
    x.detector(0);
    for (int i = 1; i <= 200; i++) due.is("7 place " + i, x.passing(0, i % 256 - 128, i * 50), i);
    due.is("7 a place too many", x.passing(0, 0, 0), FULL);
    due.is("7 length stays", x.length(0), 200);
    due.is("7 BAD before FULL", x.passing(0, 128, 0), BAD);
    x.cut(0);
    due.is("7 STATE when cut off", x.passing(0, 0, 0), STATE);
  }

  private static void passingRefusals() {
    CrossingKeeper x = Crossings.ofKinds(0);
    due.is("7 none is there", x.passing(0, 0, 0), BAD);
    x.detector(0);
    due.is("7 d -1", x.passing(-1, 0, 0), BAD);
    due.is("7 d 1", x.passing(1, 0, 0), BAD);
    due.is("7 -129", x.passing(0, -129, 0), BAD);
    due.is("7 128", x.passing(0, 128, 0), BAD);
    due.is("7 occupied -1", x.passing(0, 0, -1), BAD);
    due.is("7 occupied 10001", x.passing(0, 0, 10001), BAD);
    due.is("7 nothing was added", x.length(0), 0);
    due.is("7 -128 and 0", x.passing(0, -128, 0), 1);
    due.is("7 127 and 10000", x.passing(0, 127, 10000), 2);
    x.cut(0);
    due.is("7 BAD before STATE", x.passing(0, 0, 10001), BAD);
    due.is("7 STATE", x.passing(0, 0, 0), STATE);
  }

  private static void tables() {
    CrossingKeeper x = Crossings.ofKinds(0, 0);
    due.is("8 LEAST at first", x.told(0, 9), 5);
    due.is("8 GREATEST at first", x.told(0, 10), 20);
    due.is("8 AMBER at first", x.told(0, 11), 3);
    due.is("8 an order for 1", x.table(0, 60, 120, 9, 1), 1);
    due.is("8 an order for 0", x.table(1, 1, 1, 0, 0), 2);
    due.is("8 not done yet", x.told(1, 9), 5);
    x.second(1);
    due.is("8 that of 0 is gone", x.count(9), 1);
    due.is("8 LEAST 1", x.told(1, 9), 1);
    due.is("8 GREATEST 1", x.told(1, 10), 1);
    due.is("8 AMBER 0", x.told(1, 11), 0);
    due.is("8 that of 1 is not done", x.told(0, 9), 5);
    x.second(1);
    due.is("8 none is there", x.count(9), 0);
    due.is("8 LEAST 60", x.told(0, 9), 60);
    due.is("8 GREATEST 120", x.told(0, 10), 120);
    due.is("8 AMBER 9", x.told(0, 11), 9);
  }

  private static void tableRefusals() {
    CrossingKeeper x = Crossings.ofKinds(0);
    due.is("8 p -1", x.table(-1, 5, 20, 3, 0), BAD);
    due.is("8 p 1", x.table(1, 5, 20, 3, 0), BAD);
    due.is("8 least 0", x.table(0, 0, 20, 3, 0), BAD);
    due.is("8 least 61", x.table(0, 61, 70, 3, 0), BAD);
    due.is("8 greatest below least", x.table(0, 9, 8, 3, 0), BAD);
    due.is("8 greatest 121", x.table(0, 9, 121, 3, 0), BAD);
    due.is("8 amber -1", x.table(0, 5, 20, -1, 0), BAD);
    due.is("8 amber 10", x.table(0, 5, 20, 10, 0), BAD);
    due.is("8 at -1", x.table(0, 5, 20, 3, -1), BAD);
    due.is("8 greatest as least", x.table(0, 9, 9, 3, MAX), 1);
    x.second(2);
    due.is("8 at below NOW", x.table(0, 5, 20, 3, 1), BAD);
    due.is("8 at NOW", x.table(0, 5, 20, 3, 2), 2);
    for (int i = 3; i <= 16; i++) due.is("8 order " + i, x.table(0, 5, 20, 3, 9), i);
    due.is("8 a seventeenth", x.table(0, 5, 20, 3, 9), FULL);
    due.is("8 BAD before FULL", x.table(0, 5, 20, 3, 0), BAD);
    x.second(1);
    due.is("8 room again", x.table(0, 5, 20, 3, 9), 16);
  }

  private static void ordersOfOneSecond() {
    CrossingKeeper x = Crossings.ofKinds(0);
    x.table(0, 7, 70, 7, 1);
    x.table(0, 8, 80, 8, 0);
    x.table(0, 9, 90, 9, 1);
    x.table(0, 6, 60, 6, 0);
    x.second(1);
    due.is("8 the last told for 0", x.told(0, 9), 6);
    due.is("8 two are left", x.count(9), 2);
    x.second(1);
    due.is("8 the last told for 1", x.told(0, 10), 90);
    due.is("8 none is left", x.count(9), 0);
  }

  private static void lamps() {
    CrossingKeeper x = Crossings.ofKinds(0, 0);
    due.is("9 p -1", x.lamp(-1, true), BAD);
    due.is("9 p 2", x.lamp(2, false), BAD);
    due.is("9 it was not", x.lamp(0, false), 0);
    due.is("9 it was not", x.lamp(0, true), 0);
    due.is("9 it was", x.lamp(0, true), 1);
    due.is("9 the other was not", x.lamp(1, true), 0);
    due.is("9 it was", x.lamp(0, false), 1);
    due.is("9 it was not", x.lamp(0, true), 0);
  }

  private static void pairs() {
    CrossingKeeper x = Crossings.ofKinds(0);
    x.detector(0);
    x.detector(0);
    due.is("10 the same", x.pair(1, 1, 5), BAD);
    due.is("10 d -1", x.pair(-1, 1, 5), BAD);
    due.is("10 d 2", x.pair(2, 1, 5), BAD);
    due.is("10 e -1", x.pair(0, -1, 5), BAD);
    due.is("10 e 2", x.pair(0, 2, 5), BAD);
    due.is("10 span 0", x.pair(0, 1, 0), BAD);
    due.is("10 span 61", x.pair(0, 1, 61), BAD);
    due.is("10 none yet", x.count(10), 0);
    due.is("10 span 1", x.pair(0, 1, 1), 0);
    due.is("10 span 60", x.pair(1, 0, 60), 1);
    x.cut(0);
    due.is("10 one that is cut off", x.pair(0, 1, 5), 2);
    x.second(1);
    for (int i = 3; i < 6; i++) due.is("10 pair " + i, x.pair(0, 1, 5), i);
    due.is("10 a seventh", x.pair(0, 1, 5), FULL);
    due.is("10 BAD before FULL", x.pair(0, 0, 5), BAD);
    due.is("10 six", x.count(10), 6);
  }
}
