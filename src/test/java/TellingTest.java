/** Promises 16 to 26: what is told, with each refusal. */
public final class TellingTest {
  private static final int BAD = Crossings.BAD, NONE = Crossings.NONE;
  private static final int MIN = Integer.MIN_VALUE, MAX = Integer.MAX_VALUE;
  private static final int CAR = 0, REST = 4;
  private static final Due due = new Due();

  public static void main(String[] args) {
    constants();
    lights();
    lightsThatWere();
    lightsOfLongAgo();
    lightsOfEachSecond();
    stagesTold();
    places();
    toldOfAPhase();
    lengths();
    bounds();
    counts();
    traces();
    due.end("TellingTest");
  }

  private static void constants() {
    due.is("BAD", CrossingKeeper.BAD, -1);
    due.is("FULL", CrossingKeeper.FULL, -2);
    due.is("STATE", CrossingKeeper.STATE, -3);
    due.is("MEET", CrossingKeeper.MEET, -4);
    due.is("NONE", CrossingKeeper.NONE, -5);
  }

  private static void lights() {
    CrossingKeeper x = Crossings.quiet();
    due.is("16 p -1", x.light(-1), BAD);
    due.is("16 p 2", x.light(2), BAD);
    due.is("16 p NONE", x.light(NONE), BAD);
    due.is("16 p MIN", x.light(MIN), BAD);
    due.is("16 p MAX", x.light(MAX), BAD);
    due.is("16 red at first", x.light(1), 0);
    x.ask(1);
    x.second(1);
    due.is("16 green", x.light(1), 1);
    x.ask(0);
    x.second(2);
    due.is("16 amber", x.light(1), 2);
    x.second(1);
    due.is("16 red", x.light(1), 0);
    x.alarm();
    x.second(1);
    x.second(3);
    due.is("16 flash", x.light(1), 3);
  }

  private static void lightsThatWere() {
    CrossingKeeper x = Crossings.quiet();
    due.is("17 none yet", x.was(0, 0), NONE);
    due.is("17 n -1", x.was(0, -1), BAD);
    due.is("17 n 61", x.was(0, 61), BAD);
    due.is("17 p -1", x.was(-1, 0), BAD);
    due.is("17 p 2", x.was(2, 0), BAD);
    due.is("17 n 60", x.was(0, 60), NONE);
    x.second(1);
    x.ask(0);
    x.second(1);
    x.ask(1);
    x.second(3);
    int[] want = {0, 2, 1, 1, 0};
    for (int n = 0; n < want.length; n++) due.is("17 n " + n, x.was(0, n), want[n]);
    due.is("17 before the first", x.was(0, 5), NONE);
    due.is("17 BAD before NONE", x.was(0, 99), BAD);
  }

  private static void lightsOfLongAgo() {
    CrossingKeeper x = Crossings.ofKinds(REST, REST);
    x.stage(0, NONE, NONE, NONE);
    x.stage(1, NONE, NONE, NONE);
    x.table(0, 3, 3, 1, 0);
    x.ask(0);
    x.ask(1);
    Crossings.seconds(x, 61);
    due.is("17 the first of 61", x.was(0, 60), 1);
    due.is("17 amber in 3", x.was(0, 57), 2);
    due.is("17 the latest", x.was(0, 0), 0);
    x.second(3);
    due.is("17 amber is the oldest", x.was(0, 60), 2);
    due.is("17 red behind it", x.was(0, 59), 0);
    x.second(1);
    due.is("17 red is the oldest", x.was(0, 60), 0);
    due.is("17 the other", x.was(1, 60), 1);
  }

  /** Green and red change about without a rhythm that 61 seconds would hide. */
  private static void lightsOfEachSecond() {
    CrossingKeeper x = Crossings.ofKinds(REST, REST);
    x.stage(0, NONE, NONE, NONE);
    x.stage(1, NONE, NONE, NONE);
    x.table(0, 1, 1, 0, 0);
    x.table(1, 2, 2, 0, 0);
    int[] want = new int[100];
    for (int t = 0; t < want.length; t++) {
      if (t % 7 != 3) x.ask(0);
      if (t % 5 != 1) x.ask(1);
      x.second(1);
      want[t] = x.light(0);
    }
    for (int n = 0; n <= 60; n++) due.is("17 of each, n " + n, x.was(0, n), want[99 - n]);
  }

  private static void stagesTold() {
    CrossingKeeper x = Crossings.quiet();
    due.is("18 what -1", x.stageOf(-1), BAD);
    due.is("18 what 4", x.stageOf(4), BAD);
    for (int what = 0; what <= 3; what++) due.is("18 none", x.stageOf(what), NONE);
    x.second(3);
    x.ask(1);
    x.second(1);
    due.is("18 green", x.stageOf(0), 1);
    due.is("18 no other", x.stageOf(1), NONE);
    due.is("18 not hurried", x.stageOf(2), NONE);
    due.is("18 since one second", x.stageOf(3), 1);
    x.second(1);
    due.is("18 since two", x.stageOf(3), 2);
  }

  private static void places() {
    CrossingKeeper x = Crossings.ofKinds(CAR, CAR);
    x.stage(NONE, 1, NONE, 0);
    due.is("19 s -1", x.place(-1, 0), BAD);
    due.is("19 s 1", x.place(1, 0), BAD);
    due.is("19 k -1", x.place(0, -1), BAD);
    due.is("19 k 4", x.place(0, 4), BAD);
    due.is("19 no finding", x.finding(0), 0);
    due.is("19 a phase", x.place(0, 1), 1);
    due.is("19 the last", x.place(0, 3), 0);
    due.is("19 no finding yet", x.count(4), 0);
    due.is("19 nothing", x.place(0, 2), NONE);
    due.is("19 a finding", x.finding(0), 4);
    due.is("19 of no phase", x.finding(1), NONE);
    due.is("19 one", x.count(4), 1);
  }

  private static void toldOfAPhase() {
    CrossingKeeper x = Crossings.ofKinds(3, 4);
    due.is("20 p -1", x.told(-1, 0), BAD);
    due.is("20 p 2", x.told(2, 0), BAD);
    due.is("20 what -1", x.told(0, -1), BAD);
    due.is("20 what 12", x.told(0, 12), BAD);
    int[] want = {3, NONE, 0, 0, 0, 0, NONE, 0, NONE, 5, 20, 3};
    for (int what = 0; what < want.length; what++) {
      due.is("20 at first " + what, x.told(0, what), want[what]);
    }
    due.is("20 kind", x.told(1, 0), 4);
    x.detector(1);
    x.detector(0);
    due.is("20 detector", x.told(0, 1), 1);
    x.cut(1);
    due.is("20 detector cut off", x.told(0, 1), 1);
  }

  private static void lengths() {
    CrossingKeeper x = Crossings.ofKinds(CAR);
    due.is("21 none is there", x.length(0), BAD);
    x.detector(0);
    due.is("21 d -1", x.length(-1), BAD);
    due.is("21 d 1", x.length(1), BAD);
    due.is("21 no length", x.length(0), 0);
    Crossings.places(x, 0, 4, 1);
    due.is("21 four", x.length(0), 4);
    x.second(2);
    due.is("21 seconds take nothing", x.length(0), 4);
    x.cut(0);
    due.is("21 cut off", x.length(0), NONE);
  }

  private static void bounds() {
    CrossingKeeper x = Crossings.ofKinds(CAR, CAR, CAR);
    x.conflict(0, 1, 2, 9);
    due.is("22 without stages", x.bound(), 0);
    x.stage(0, 2, NONE, NONE);
    due.is("22 one stage", x.bound(), 20 + 3 + 9);
    x.stage(1, NONE, NONE, NONE);
    due.is("22 two stages", x.bound(), 2 * (20 + 3 + 9));
    x.conflict(1, 2, 15, 0);
    due.is("22 a greater clearing", x.bound(), 2 * (20 + 3 + 15));
    x.table(0, 10, 30, 8, 0);
    x.table(1, 10, 100, 1, 0);
    x.table(2, 40, 50, 0, 1);
    due.is("22 orders are not the table", x.bound(), 2 * (20 + 3 + 15));
    x.second(1);
    due.is("22 the table as it is", x.bound(), 20 + 100 + 2 * (8 + 15));
    x.second(1);
    due.is("22 not below LEAST", x.bound(), 40 + 100 + 2 * (8 + 15));
    CrossingKeeper y = Crossings.ofKinds(CAR, CAR);
    y.stage(0, NONE, NONE, NONE);
    y.table(1, 1, 1, 9, 0);
    y.second(1);
    due.is("22 AMBER of one in no stage", y.bound(), 20 + 9);
    y.table(0, 7, 8, 0, 1);
    y.table(1, 7, 8, 0, 1);
    y.second(1);
    due.is("22 no AMBER, no CLEARING", y.bound(), 8);
  }

  private static void counts() {
    CrossingKeeper x = Crossings.ofKinds(CAR, CAR, REST);
    due.is("23 what -1", x.count(-1), BAD);
    due.is("23 what 12", x.count(12), BAD);
    x.stage(0, 1, NONE, NONE);
    x.stage(2, NONE, NONE, NONE);
    x.detector(0);
    for (int i = 0; i < 3; i++) x.detector(1);
    x.table(0, 1, 1, 1, 9);
    x.table(0, 1, 1, 1, 9);
    x.table(0, 1, 1, 1, 9);
    x.table(0, 1, 1, 1, 9);
    x.table(0, 1, 1, 1, 9);
    x.pair(0, 1, 3);
    x.second(2);
    int[] want = {2, 0, 4, 0, 0, 0, 3, 2, 4, 5, 1, 2};
    for (int what = 0; what < want.length; what++) {
      due.is("23 count " + what, x.count(what), want[what]);
    }
  }

  private static void traces() {
    CrossingKeeper x = Crossings.ofKinds(CAR, REST);
    x.stage(1, NONE, NONE, NONE);
    due.is("26 at first", x.trace(), 0);
    x.detector(0);
    x.passing(0, 0, 0);
    x.ask(1);
    x.second(1);
    due.is("26 asks of a car", x.trace(), 1);
    x.second(1);
    due.is("26 holds of a rest", x.trace(), 5001);
  }
}
