/** Part 3 (a second) with promises 11 to 13: asking, hurrying, ending, beginning, gaps. */
public final class SecondsTest {
  private static final int BAD = Crossings.BAD, STATE = Crossings.STATE, NONE = Crossings.NONE;
  private static final int CAR = 0, WALK = 2, REST = 4;
  private static final int RED = 0, GREEN = 1, AMBER = 2;
  private static final Due due = new Due();

  public static void main(String[] args) {
    asking();
    hurrying();
    hurryRefusals();
    seconds();
    secondsUntilAFault();
    beginning();
    endingByLeast();
    endingByGreatest();
    endingByHurry();
    notEndingWhenNothingIsWanted();
    heldByOneOfItsPhases();
    tableOfTheBeginning();
    stageTimesOfSeveralPhases();
    endsAndFree();
    freeIsTheGreatestOfSeveral();
    changingInOneSecond();
    waitingForAnAmber();
    firstAskedGoesFirst();
    goingRound();
    goingRoundBehindTheLatest();
    hurriedGoesFirst();
    hurriedWaitsAlone();
    gaps();
    gapOfALaterGreen();
    gapFindings();
    gapOfRest();
    membersAndChanges();
    due.end("SecondsTest");
  }

  private static void asking() {
    CrossingKeeper x = Crossings.quiet();
    due.is("11 p -1", x.ask(-1), BAD);
    due.is("11 p 2", x.ask(2), BAD);
    due.is("11 asked", x.ask(1), 1);
    due.is("11 asked already", x.ask(1), 0);
    due.is("11 since NOW", x.told(1, 8), 0);
    x.second(1);
    due.is("11 green", x.light(1), GREEN);
    due.is("11 not asked any more", x.told(1, 8), NONE);
    due.is("11 green is not asked", x.ask(1), 0);
    due.is("11 still not", x.told(1, 8), NONE);
    x.second(1);
    due.is("11 another", x.ask(0), 1);
    due.is("11 since NOW 2", x.told(0, 8), 2);
    x.second(1);
    due.is("11 amber", x.light(1), AMBER);
    due.is("11 amber may be asked", x.ask(1), 1);
    due.is("11 since NOW 3", x.told(1, 8), 3);
    x.alarm();
    x.second(1);
    due.is("11 asked in a fault", x.ask(0), 0);
    due.is("11 kept in a fault", x.told(1, 8), 3);
  }

  private static void hurrying() {
    CrossingKeeper x = Crossings.quiet();
    due.is("12 hurried", x.hurry(1), 1);
    due.is("12 told", x.stageOf(2), 1);
    due.is("12 another one in its place", x.hurry(0), 1);
    due.is("12 none else", x.stageOf(2), 0);
    due.is("12 the same again", x.hurry(0), 1);
    x.second(1);
    due.is("12 it is green", x.stageOf(0), 0);
    due.is("12 hurried no more", x.stageOf(2), NONE);
    due.is("12 green", x.hurry(0), 0);
    due.is("12 the other", x.hurry(1), 1);
    due.is("12 green again", x.hurry(0), 0);
    due.is("12 the other is so still", x.stageOf(2), 1);
  }

  private static void hurryRefusals() {
    CrossingKeeper x = Crossings.quiet();
    due.is("12 s -1", x.hurry(-1), BAD);
    due.is("12 s 2", x.hurry(2), BAD);
    due.is("12 s NONE", x.hurry(NONE), BAD);
    x.hurry(1);
    due.is("12 BAD changes nothing", x.hurry(2), BAD);
    due.is("12 hurried still", x.stageOf(2), 1);
    x.alarm();
    due.is("12 an alarm is no fault yet", x.hurry(0), 1);
    x.second(1);
    due.is("12 a fault", x.hurry(0), STATE);
    due.is("12 BAD before STATE", x.hurry(2), BAD);
    due.is("12 none is hurried", x.stageOf(2), NONE);
    x.restore();
    due.is("12 after it", x.hurry(1), 1);
  }

  private static void seconds() {
    CrossingKeeper x = Crossings.quiet();
    due.is("13 -1", x.second(-1), BAD);
    due.is("13 5", x.second(5), BAD);
    due.is("13 least int", x.second(Integer.MIN_VALUE), BAD);
    due.is("13 none passed", x.count(0), 0);
    due.is("13 0", x.second(0), 0);
    due.is("13 still none", x.count(0), 0);
    for (int n = 1; n <= 4; n++) due.is("13 " + n, x.second(n), n);
    due.is("13 NOW", x.count(0), 10);
  }

  private static void secondsUntilAFault() {
    CrossingKeeper x = Crossings.quiet();
    x.second(1);
    x.ask(0);
    x.lamp(0, true);
    due.is("13 met in the second one", x.second(4), 2);
    due.is("13 NOW", x.count(0), 3);
    due.is("13 in a fault all pass", x.second(4), 4);
    due.is("13 0 in a fault", x.second(0), 0);
    x.restore();
    x.alarm();
    due.is("13 met in the first one", x.second(4), 1);
    x.restore();
    x.alarm();
    due.is("13 met in the last one", x.second(1), 1);
    due.is("13 NOW at last", x.count(0), 9);
  }

  private static void beginning() {
    CrossingKeeper x = Crossings.ofKinds(CAR, CAR, CAR);
    x.stage(NONE, 2, NONE, 0);
    x.ask(0);
    x.second(1);
    due.is("e the asked one is green", x.light(0), GREEN);
    due.is("e its fellow too", x.light(2), GREEN);
    due.is("e no other", x.light(1), RED);
    due.is("e the fellow is not asked", x.told(2, 8), NONE);
    due.is("e greens", x.told(2, 5), 1);
    due.is("e since", x.stageOf(3), 1);
    due.is("e that without a stage stays asked", x.told(1, 8), 0);
    due.is("e which makes no stage wanted", x.stageOf(1), NONE);
  }

  private static void endingByLeast() {
    CrossingKeeper x = Crossings.quiet();
    x.ask(0);
    x.second(1);
    x.ask(1);
    x.second(1);
    due.is("c below LEAST", x.light(0), GREEN);
    x.second(1);
    due.is("c at LEAST, nothing holds", x.light(0), AMBER);
    due.is("c no stage is green", x.stageOf(0), NONE);
    due.is("c no length", x.stageOf(3), NONE);
    x.second(1);
    due.is("d red behind one second", x.light(0), RED);
    due.is("e not free yet", x.light(1), RED);
    x.second(1);
    due.is("e not free yet in 4", x.light(1), RED);
    x.second(1);
    due.is("e free in 5", x.light(1), GREEN);
    due.is("e stage 1", x.stageOf(0), 1);
  }

  /** Phase 0 holds all the time; both are asked since 0. */
  private static CrossingKeeper held() {
    CrossingKeeper x = Crossings.withStages(CAR, CAR);
    Crossings.places(x, 0, 60, 1);
    Crossings.places(x, 1, 60, 1);
    x.table(0, 3, 7, 2, 0);
    return x;
  }

  private static void endingByGreatest() {
    CrossingKeeper x = held();
    Crossings.seconds(x, 7);
    due.is("c held below GREATEST", x.light(0), GREEN);
    x.second(1);
    due.is("c at GREATEST", x.light(0), AMBER);
    due.is("e free and red in the same second", x.light(1), GREEN);
    x.second(1);
    due.is("d amber", x.light(0), AMBER);
    x.second(1);
    due.is("d red", x.light(0), RED);
  }

  private static void endingByHurry() {
    CrossingKeeper x = held();
    x.second(2);
    x.hurry(1);
    x.second(1);
    due.is("c not below LEAST", x.light(0), GREEN);
    x.second(1);
    due.is("c hurried: at LEAST", x.light(0), AMBER);
    due.is("c its end", x.told(0, 6), 5);
  }

  private static void notEndingWhenNothingIsWanted() {
    CrossingKeeper x = Crossings.quiet();
    x.ask(0);
    Crossings.seconds(x, 20);
    due.is("c nothing else is wanted", x.light(0), GREEN);
    due.is("c long since", x.stageOf(3), 20);
    x.hurry(1);
    x.second(1);
    due.is("c a hurried one is wanted", x.light(0), AMBER);
  }

  private static void heldByOneOfItsPhases() {
    CrossingKeeper x = Crossings.ofKinds(WALK, CAR, REST);
    x.stage(0, NONE, 1, NONE);
    x.stage(2, NONE, NONE, NONE);
    x.detector(0);
    x.detector(1);
    Crossings.rows(x, 0, 1, 1, 1, 1);
    Crossings.rows(x, 1, 1, 1, 1, 0);
    x.table(0, 1, 20, 1, 0);
    x.table(1, 1, 20, 1, 0);
    x.ask(2);
    x.second(3);
    due.is("c one of both holds", x.light(0), GREEN);
    x.second(1);
    due.is("c none holds", x.light(0), AMBER);
    due.is("c nor the other", x.light(1), AMBER);
  }

  private static void tableOfTheBeginning() {
    CrossingKeeper x = held();
    x.table(0, 1, 2, 0, 1);
    Crossings.seconds(x, 7);
    due.is("c GREATEST as in second B", x.light(0), GREEN);
    due.is("c the table is another by now", x.told(0, 10), 2);
    x.second(1);
    due.is("c AMBER as it is now", x.light(0), RED);
    due.is("c ends at once", x.told(0, 6), 7);
    CrossingKeeper y = held();
    y.table(0, 1, 2, 4, 0);
    y.second(3);
    due.is("c an order for second B counts", y.light(0), AMBER);
    due.is("c with its AMBER", y.told(0, 6), 6);
  }

  private static void stageTimesOfSeveralPhases() {
    CrossingKeeper x = Crossings.ofKinds(REST, REST, REST);
    x.stage(0, 1, NONE, NONE);
    x.stage(2, NONE, NONE, NONE);
    x.table(0, 2, 5, 1, 0);
    x.table(1, 4, 30, 2, 0);
    x.ask(0);
    x.ask(2);
    x.second(1);
    due.is("the least GREATEST", x.bound(), 5 + 20 + 2 * 3);
    x.second(4);
    due.is("held until then", x.light(1), GREEN);
    x.second(1);
    due.is("ended by it", x.light(1), AMBER);
    CrossingKeeper y = Crossings.ofKinds(REST, REST, REST);
    y.stage(0, 1, NONE, NONE);
    y.stage(2, NONE, NONE, NONE);
    y.table(0, 2, 3, 1, 0);
    y.table(1, 6, 30, 2, 0);
    y.ask(0);
    y.hurry(1);
    y.second(1);
    due.is("GREATEST not below LEAST", y.bound(), 20 + 6 + 2 * 3);
    y.hurry(0);
    Crossings.seconds(y, 5);
    due.is("stage 0 begins", y.stageOf(0), 0);
    y.hurry(1);
    Crossings.seconds(y, 5);
    due.is("the greatest LEAST", y.light(0), GREEN);
    y.second(1);
    due.is("ended by it", y.light(0), AMBER);
  }

  private static void endsAndFree() {
    CrossingKeeper x = Crossings.quiet();
    due.is("20 never ended", x.told(0, 6), NONE);
    due.is("20 free at first", x.told(1, 7), 0);
    x.ask(0);
    x.second(1);
    x.ask(1);
    x.second(2);
    due.is("20 ends in 3", x.told(0, 6), 3);
    due.is("20 the other is free in 5", x.told(1, 7), 5);
    due.is("20 itself is not bound", x.told(0, 7), 0);
    x.ask(0);
    x.second(3);
    due.is("back: green in 5", x.light(1), GREEN);
    x.second(2);
    due.is("back: ends in 8", x.told(1, 6), 8);
    due.is("back: clearing 3", x.told(0, 7), 11);
    due.is("20 ended in 3 still", x.told(0, 6), 3);
  }

  private static void freeIsTheGreatestOfSeveral() {
    CrossingKeeper x = Crossings.ofKinds(REST, REST, REST, REST);
    x.stage(0, 1, NONE, NONE);
    x.stage(2, NONE, NONE, NONE);
    x.conflict(0, 2, 9, 1);
    x.conflict(1, 2, 0, 1);
    x.conflict(1, 3, 4, 1);
    x.table(0, 1, 1, 1, 0);
    x.table(1, 1, 1, 2, 0);
    x.ask(0);
    x.ask(2);
    x.second(2);
    due.is("FREE is at least each", x.told(2, 7), 11);
    due.is("FREE of one in no stage", x.told(3, 7), 7);
    Crossings.seconds(x, 9);
    due.is("not before", x.light(2), RED);
    x.second(1);
    due.is("in that second", x.light(2), GREEN);
  }

  private static void changingInOneSecond() {
    CrossingKeeper x = Crossings.ofKinds(REST, REST);
    x.stage(0, NONE, NONE, NONE);
    x.stage(1, NONE, NONE, NONE);
    x.conflict(0, 1, 0, 0);
    x.table(0, 1, 1, 0, 0);
    x.ask(0);
    x.ask(1);
    x.second(2);
    due.is("RED without AMBER", x.light(0), RED);
    due.is("one change for it", x.told(0, 2), 2);
    due.is("the next in the same second", x.light(1), GREEN);
    due.is("free in T", x.told(1, 7), 1);
    due.is("since T", x.stageOf(3), 1);
  }

  private static void waitingForAnAmber() {
    CrossingKeeper x = Crossings.ofKinds(REST, REST);
    x.stage(0, NONE, NONE, NONE);
    x.stage(1, 0, NONE, NONE);
    x.table(0, 1, 1, 2, 0);
    x.ask(0);
    x.hurry(0);
    x.ask(1);
    x.second(2);
    due.is("e its own phase is amber", x.light(1), RED);
    x.second(1);
    due.is("e still amber", x.light(0), AMBER);
    x.second(1);
    due.is("e red and green in one second", x.light(0), GREEN);
    due.is("e with it", x.light(1), GREEN);
    due.is("e both changes are told", x.told(0, 2), 4);
    due.is("e twice green", x.told(0, 5), 2);
  }

  private static void firstAskedGoesFirst() {
    CrossingKeeper x = Crossings.ofKinds(REST, REST, REST, REST);
    for (int p = 0; p < 4; p++) x.stage(p, NONE, NONE, NONE);
    x.table(0, 1, 1, 0, 0);
    x.ask(0);
    x.second(1);
    due.is("stage 0", x.stageOf(0), 0);
    x.table(0, 1, 60, 0, 1);
    x.ask(3);
    due.is("18 of the others", x.stageOf(1), 3);
    x.alarm();
    x.second(1);
    x.ask(2);
    x.ask(1);
    due.is("18 in a fault", x.stageOf(1), 3);
    x.restore();
    x.second(1);
    due.is("the one asked first", x.stageOf(0), 3);
    due.is("18 behind it going round", x.stageOf(1), 1);
  }

  private static void goingRound() {
    CrossingKeeper x = Crossings.ofKinds(REST, REST, REST);
    for (int p = 0; p < 3; p++) x.stage(p, NONE, NONE, NONE);
    for (int p = 0; p < 3; p++) x.table(p, 1, 1, 0, 0);
    due.is("18 none is wanted", x.stageOf(1), NONE);
    x.ask(2);
    due.is("18 the only one", x.stageOf(1), 2);
    x.ask(1);
    due.is("18 at first behind the last", x.stageOf(1), 1);
    x.ask(0);
    due.is("18 that is stage 0", x.stageOf(1), 0);
    int[] want = {0, 1, 2, 0, 1, 2, 0};
    for (int t = 0; t < want.length; t++) {
      x.second(1);
      due.is("green in " + t, x.stageOf(0), want[t]);
      for (int p = 0; p < 3; p++) x.ask(p);
    }
  }

  private static void goingRoundBehindTheLatest() {
    CrossingKeeper x = Crossings.ofKinds(REST, REST, REST, REST);
    for (int p = 0; p < 4; p++) x.stage(p, NONE, NONE, NONE);
    x.ask(1);
    x.second(1);
    x.ask(0);
    x.ask(1);
    x.ask(3);
    due.is("18 behind the green one", x.stageOf(1), 3);
    x.ask(2);
    due.is("18 the first behind it", x.stageOf(1), 2);
    x.alarm();
    x.second(1);
    due.is("18 behind the one that was green", x.stageOf(1), 2);
    x.restore();
    x.second(1);
    due.is("e behind the one that was green", x.stageOf(0), 2);
    due.is("18 then the next", x.stageOf(1), 3);
  }

  private static void hurriedGoesFirst() {
    CrossingKeeper x = Crossings.ofKinds(REST, REST, REST);
    for (int p = 0; p < 3; p++) x.stage(p, NONE, NONE, NONE);
    x.ask(0);
    x.ask(1);
    x.hurry(2);
    due.is("18 the hurried one is next", x.stageOf(1), 2);
    x.second(1);
    due.is("e it is green", x.stageOf(0), 2);
    due.is("e though not asked", x.told(2, 5), 1);
    due.is("18 then behind it, going round", x.stageOf(1), 0);
    x.hurry(1);
    due.is("18 hurried while one is green", x.stageOf(1), 1);
  }

  private static void hurriedWaitsAlone() {
    CrossingKeeper x = Crossings.ofKinds(REST, REST, REST);
    for (int p = 0; p < 3; p++) x.stage(p, NONE, NONE, NONE);
    x.conflict(0, 1, 5, 5);
    x.table(0, 1, 1, 0, 0);
    x.ask(0);
    x.second(1);
    x.ask(2);
    x.hurry(1);
    x.second(4);
    due.is("e no other meanwhile", x.stageOf(0), NONE);
    due.is("18 it is next", x.stageOf(1), 1);
    x.second(2);
    due.is("e it is green when free", x.stageOf(0), 1);
  }

  /** Green since 0 with these passings; ends in the second behind the last but one of them. */
  private static CrossingKeeper afterGreen(int... passings) {
    CrossingKeeper x = Crossings.ofKinds(CAR, REST);
    x.stage(0, NONE, NONE, NONE);
    x.stage(1, NONE, NONE, NONE);
    int lasts = passings.length - 1;
    x.table(0, lasts, lasts, 1, 0);
    x.detector(0);
    Crossings.rows(x, 0, passings);
    x.ask(0);
    x.ask(1);
    Crossings.seconds(x, lasts + 1);
    return x;
  }

  private static void gap(String name, int want, int... passings) {
    CrossingKeeper x = afterGreen(passings);
    due.is("gap ended: " + name, x.light(0), AMBER);
    due.is("gap " + name, x.told(0, 4), want);
    due.is("gap finding 3: " + name, x.count(3), 0);
  }

  private static void gaps() {
    gap("6 by 2", 3, 1, 0, 0, 0, 1, 0, 9);
    gap("5 by 2", 2, 2, 0, 0, 0, 0, 7);
    gap("2 by 3, cut", 0, 1, 2, 100);
    gap("4 by -1", -4, 1, -2, 0, 0, 50);
    gap("5 by -2, cut towards 0", -2, -2, 0, 0, 0, 0, 1);
    gap("2 by -127, cut towards 0", 0, -127, 0, 1);
    gap("1 by 1", 1, 1, 0);
    gap("2 by 254", 0, 127, 127, 0);
  }

  private static void gapOfALaterGreen() {
    CrossingKeeper x = Crossings.ofKinds(CAR, REST);
    x.stage(0, NONE, NONE, NONE);
    x.stage(1, NONE, NONE, NONE);
    x.detector(0);
    Crossings.rows(x, 0, 0, -50, 0, 1, 0, 1, 0, 0, 9);
    x.table(0, 5, 5, 1, 0);
    x.second(3);
    due.is("not green yet", x.light(0), RED);
    x.ask(1);
    x.ask(0);
    x.second(1);
    due.is("green since 3", x.light(0), GREEN);
    x.second(4);
    due.is("green still", x.light(0), GREEN);
    x.second(1);
    due.is("ended in 8", x.light(0), AMBER);
    due.is("gap of 3 to 7: 5 by 2", x.told(0, 4), 2);
  }

  private static void gapFindings() {
    CrossingKeeper x = afterGreen(1, -1, 0, 4);
    due.is("gap of the sum 0", x.told(0, 4), 0);
    due.is("finding 3", x.count(3), 1);
    due.is("finding 3 told", x.finding(0), 3);
    due.is("finding 3 of the phase", x.finding(1), 0);
    CrossingKeeper y = Crossings.quiet();
    y.ask(0);
    y.second(1);
    y.ask(1);
    y.detector(0);
    y.passing(2, 1, 0);
    Crossings.seconds(y, 6);
    due.is("gap with short rows", y.told(0, 4), 0);
    due.is("findings 2: held in 1 to 6, gap in 6", y.count(2), 7);
    CrossingKeeper z = Crossings.quiet();
    z.ask(0);
    z.second(1);
    z.ask(1);
    z.cut(0);
    Crossings.seconds(z, 6);
    due.is("gap when cut off", z.told(0, 4), 0);
    due.is("findings 1: held in 1 to 6, gap in 6", z.count(1), 7);
    due.is("entered all the same", z.told(0, 2), 2);
    due.is("left all the same", z.told(0, 3), 2);
    gapReachesUntilTheSecondBefore();
  }

  private static void gapReachesUntilTheSecondBefore() {
    CrossingKeeper x = Crossings.ofKinds(CAR, REST);
    x.stage(0, NONE, NONE, NONE);
    x.stage(1, NONE, NONE, NONE);
    x.table(0, 1, 3, 1, 0);
    x.detector(0);
    Crossings.rows(x, 0, 1, 0, 0);
    x.ask(0);
    x.ask(1);
    x.second(1);
    x.cut(0);
    x.second(2);
    x.detector(0);
    Crossings.rows(x, 1, 1, 0, 0);
    x.second(1);
    due.is("ended in 3", x.light(0), AMBER);
    due.is("rows reach until 2", x.told(0, 4), 3);
    due.is("one finding 2, of holding", x.count(2), 1);
  }

  private static void gapOfRest() {
    CrossingKeeper x = Crossings.ofKinds(REST, REST);
    x.stage(0, NONE, NONE, NONE);
    x.stage(1, NONE, NONE, NONE);
    x.detector(0);
    Crossings.rows(x, 0, 1, 0, 0);
    x.table(0, 2, 2, 1, 0);
    x.ask(0);
    x.ask(1);
    x.second(3);
    due.is("rest ended", x.light(0), AMBER);
    due.is("gap of rest", x.told(0, 4), 0);
    due.is("no finding", x.finding(0), 0);
  }

  private static void membersAndChanges() {
    CrossingKeeper x = Crossings.quiet();
    x.ask(0);
    x.second(1);
    due.is("20 entered once", x.told(0, 2), 1);
    x.ask(1);
    x.second(4);
    due.is("20 green, amber, red", x.told(0, 2), 3);
    due.is("20 left as often", x.told(0, 3), 3);
    due.is("20 the other not yet", x.told(1, 2), 0);
    due.is("23 changes", x.count(11), 3);
    x.second(1);
    due.is("20 the other", x.told(1, 3), 1);
    due.is("23 changes of all", x.count(11), 4);
    due.is("20 greens", x.told(0, 5), 1);
  }
}
