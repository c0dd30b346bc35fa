/** Part 4 (faults) with promises 9, 10, 14, 15 and 25. */
public final class FaultsTest {
  private static final int BAD = Crossings.BAD, STATE = Crossings.STATE, NONE = Crossings.NONE;
  private static final int CAR = 0, REST = 4;
  private static final int RED = 0, GREEN = 1, AMBER = 2, FLASH = 3;
  private static final int LAMP = 1, PAIR = 2, ALARM = 3;
  private static final Due due = new Due();

  public static void main(String[] args) {
    lampOfGreen();
    lampOfAmber();
    lampOfRed();
    pairThatDiffers();
    pairBeginsAnew();
    pairWithShortRows();
    pairCutOff();
    pairsBeginAnewWithAFault();
    pairsOfNegativePassings();
    alarms();
    alarmIsGoneWithAnotherFault();
    firstOfSeveral();
    allRed();
    allRedOfAmber();
    flashing();
    restoring();
    restoringBeforeFlash();
    nothingElseInAFault();
    ordersInAFault();
    numbersOfFaults();
    faultRefusals();
    due.end("FaultsTest");
  }

  private static void lampOfGreen() {
    CrossingKeeper x = Crossings.quiet();
    x.lamp(0, true);
    x.ask(0);
    due.is("9 the lamp of a red one", x.second(1), 1);
    due.is("9 it is green", x.light(0), GREEN);
    due.is("9 no fault yet", x.fault(0), 0);
    due.is("9 met", x.second(4), 1);
    due.is("25 LAMP", x.fault(0), LAMP);
    due.is("25 in second 1", x.fault(1), 1);
    due.is("25 number", x.fault(2), 1);
    due.is("25 all red", x.fault(3), 1);
  }

  private static void lampOfAmber() {
    CrossingKeeper x = Crossings.quiet();
    x.ask(0);
    x.second(1);
    x.ask(1);
    x.second(2);
    due.is("9 amber", x.light(0), AMBER);
    x.lamp(0, true);
    due.is("9 before it is red", x.second(4), 1);
    due.is("25 LAMP of amber", x.fault(0), LAMP);
    due.is("25 in second 3", x.fault(1), 3);
  }

  private static void lampOfRed() {
    CrossingKeeper x = Crossings.quiet();
    x.ask(0);
    x.second(1);
    x.lamp(1, true);
    x.lamp(0, true);
    x.lamp(0, false);
    due.is("9 red, or whole again", x.second(4), 4);
    due.is("25 no fault", x.fault(0), 0);
  }

  /** Two cars with these rows and a pair of this span. */
  private static CrossingKeeper paired(int span, int[] one, int[] other) {
    CrossingKeeper x = Crossings.withStages(CAR, CAR);
    Crossings.rows(x, 0, one);
    Crossings.rows(x, 1, other);
    x.pair(0, 1, span);
    return x;
  }

  private static int[] row(int... passings) {
    return passings;
  }

  private static void pairThatDiffers() {
    CrossingKeeper x = paired(1, row(0, 0, 0, 7), row(0, 0, 0, 0));
    due.is("10 span 1", x.second(4), 4);
    due.is("25 PAIR", x.fault(0), PAIR);
    due.is("25 in second 3", x.fault(1), 3);
    CrossingKeeper y = paired(3, row(1, 0, 1, 0), row(0, 1, 0, 1));
    due.is("10 either of both", y.second(4), 3);
    due.is("25 in second 2", y.fault(1), 2);
    CrossingKeeper z = paired(4, row(1, 0, 1, 1), row(0, 1, 2, 0));
    due.is("10 both above 0", z.second(4), 4);
    due.is("25 no fault", z.fault(0), 0);
  }

  private static void pairBeginsAnew() {
    CrossingKeeper x = paired(2, row(1, 0, 1, 1, 0), row(0, 0, 0, 1, 0));
    due.is("10 never two running", x.second(4), 4);
    x.second(1);
    due.is("25 no fault", x.fault(2), 0);
  }

  private static void pairWithShortRows() {
    CrossingKeeper x = paired(2, row(1, 1, 1, 1), row(0));
    due.is("10 rows end", x.second(2), 2);
    Crossings.rows(x, 1, 0, 0);
    due.is("10 counted anew", x.second(1), 1);
    due.is("25 no fault yet", x.fault(0), 0);
    Crossings.rows(x, 1, 0);
    due.is("10 the second one", x.second(2), 1);
    due.is("25 PAIR", x.fault(0), PAIR);
    due.is("25 in second 3", x.fault(1), 3);
  }

  private static void pairCutOff() {
    CrossingKeeper x = paired(2, row(1, 1, 1, 1), row(0, 0, 0, 0));
    x.second(1);
    x.cut(0);
    due.is("10 no rows", x.second(3), 3);
    due.is("25 no fault", x.fault(0), 0);
    CrossingKeeper z = paired(2, row(1, 1, 1, 1), row(0, 0, 0, 0));
    z.second(1);
    z.cut(1);
    due.is("10 no rows of the other", z.second(3), 3);
    due.is("25 no fault of it", z.fault(0), 0);
    CrossingKeeper w = paired(1, row(1), row(0));
    w.cut(1);
    w.second(1);
    due.is("10 no rows in second 0", w.fault(0), 0);
    CrossingKeeper y = paired(2, row(1, 1, 1, 1), row(0, 0, 0, 0));
    y.second(1);
    y.detector(0);
    due.is("10 of no phase any more", y.second(3), 1);
    due.is("25 PAIR still", y.fault(0), PAIR);
  }

  private static void pairsBeginAnewWithAFault() {
    CrossingKeeper x = paired(3, row(1, 1, 1, 1, 1, 1, 1), row(0, 0, 0, 0, 0, 0, 0));
    x.second(1);
    x.alarm();
    x.second(1);
    due.is("4 ALARM", x.fault(0), ALARM);
    x.second(1);
    x.restore();
    due.is("4 three more", x.second(4), 3);
    due.is("25 PAIR", x.fault(0), PAIR);
    due.is("25 in second 5", x.fault(1), 5);
    x.restore();
    due.is("4 and anew", x.second(1), 1);
    due.is("25 the same", x.fault(1), 5);
  }

  private static void pairsOfNegativePassings() {
    CrossingKeeper x = paired(1, row(-1, 0, -5), row(0, -3, -7));
    due.is("10 neither is above 0", x.second(3), 3);
    due.is("25 no fault", x.fault(0), 0);
    CrossingKeeper y = paired(1, row(-1), row(1));
    y.second(1);
    due.is("10 one is above 0", y.fault(0), PAIR);
  }

  private static void alarms() {
    CrossingKeeper x = new CrossingKeeper();
    due.is("14 alarm", x.alarm(), 1);
    due.is("14 again", x.alarm(), 1);
    due.is("14 not met yet", x.fault(0), 0);
    due.is("14 no fault yet", x.fault(3), 0);
    due.is("14 met", x.second(4), 1);
    due.is("25 ALARM", x.fault(0), ALARM);
    due.is("25 in second 0", x.fault(1), 0);
    due.is("14 a fault", x.alarm(), STATE);
    x.restore();
    due.is("14 it is gone", x.second(4), 4);
    due.is("14 one fault", x.count(5), 1);
    due.is("14 another", x.alarm(), 1);
    due.is("14 met again", x.second(4), 1);
    due.is("25 second number", x.fault(2), 2);
  }

  private static void alarmIsGoneWithAnotherFault() {
    CrossingKeeper x = Crossings.quiet();
    x.ask(0);
    x.second(1);
    x.lamp(0, true);
    x.alarm();
    x.second(1);
    due.is("4 LAMP is first", x.fault(0), LAMP);
    x.restore();
    due.is("4 the alarm is gone", x.second(4), 4);
    due.is("4 one fault", x.fault(2), 1);
  }

  private static void firstOfSeveral() {
    CrossingKeeper x = paired(2, row(1, 1), row(0, 0));
    x.second(1);
    x.lamp(0, true);
    x.second(1);
    due.is("4 LAMP before PAIR", x.fault(0), LAMP);
    due.is("4 one fault", x.count(5), 1);
    CrossingKeeper y = paired(1, row(1), row(0));
    y.alarm();
    y.second(1);
    due.is("4 PAIR before ALARM", y.fault(0), PAIR);
  }

  private static void allRed() {
    CrossingKeeper x = Crossings.quiet();
    x.ask(0);
    x.second(4);
    x.hurry(1);
    x.alarm();
    x.passing(0, 0, 0);
    due.is("4 met", x.second(1), 1);
    due.is("4 red", x.light(0), RED);
    due.is("4 ends in T", x.told(0, 6), 4);
    due.is("4 free", x.told(1, 7), 6);
    due.is("4 no gap: the sum is 0", x.count(3), 1);
    due.is("4 no stage is green", x.stageOf(0), NONE);
    due.is("4 none is hurried", x.stageOf(2), NONE);
    due.is("4 none began", x.light(1), RED);
    due.is("4 one change", x.told(0, 2), 2);
    due.is("4 none of a red one", x.told(1, 2), 0);
    CrossingKeeper y = paired(9, row(1, 1, 1, 1, 0), row(0, 0, 0, 0, 0));
    y.second(4);
    y.alarm();
    y.second(1);
    due.is("4 gap of a green one", y.told(0, 4), 1);
  }

  private static void allRedOfAmber() {
    CrossingKeeper x = Crossings.withStages(CAR, CAR);
    x.conflict(0, 1, 4, 4);
    Crossings.rows(x, 0, 1, 0, 0, 0, 0, 0, 0, 0);
    Crossings.rows(x, 1, 0, 0, 0, 0, 0, 0, 0, 0);
    x.table(0, 2, 5, 6, 0);
    x.second(1);
    x.ask(1);
    x.second(2);
    due.is("4 amber", x.light(0), AMBER);
    due.is("4 would end in 8", x.told(0, 6), 8);
    due.is("4 gap 2", x.told(0, 4), 2);
    x.alarm();
    x.second(1);
    due.is("4 red", x.light(0), RED);
    due.is("4 ends in 3", x.told(0, 6), 3);
    due.is("4 free is at least what it was", x.told(1, 7), 12);
    due.is("4 its gap stays", x.told(0, 4), 2);
    due.is("4 three changes", x.told(0, 3), 3);
  }

  private static void flashing() {
    CrossingKeeper x = Crossings.quiet();
    x.alarm();
    x.second(1);
    for (int t = 1; t <= 2; t++) {
      x.second(1);
      due.is("4 red in " + t, x.light(0), RED);
      due.is("25 all red in " + t, x.fault(3), 1);
    }
    x.second(1);
    for (int p = 0; p < 2; p++) {
      due.is("4 flash", x.light(p), FLASH);
      due.is("4 entered", x.told(p, 2), 1);
      due.is("4 left", x.told(p, 3), 1);
    }
    due.is("25 flash", x.fault(3), 2);
    x.second(4);
    due.is("4 flash only once", x.count(11), 2);
    due.is("4 flash still", x.light(1), FLASH);
    due.is("25 its second stays", x.fault(1), 0);
    x.restore();
    x.second(4);
    x.alarm();
    x.second(1);
    x.second(2);
    due.is("4 red behind a later one", x.light(0), RED);
    x.second(1);
    due.is("4 flash behind a later one", x.light(0), FLASH);
  }

  private static void restoring() {
    CrossingKeeper x = Crossings.quiet();
    due.is("15 there is none", x.restore(), STATE);
    x.alarm();
    due.is("15 an alarm is none yet", x.restore(), STATE);
    x.second(1);
    x.second(4);
    due.is("15 restored", x.restore(), 1);
    due.is("15 again", x.restore(), STATE);
    due.is("15 red", x.light(0), RED);
    due.is("15 changes", x.told(1, 2), 2);
    due.is("25 it is no more", x.fault(3), 0);
    due.is("25 but it was", x.fault(0), ALARM);
    due.is("25 its number", x.fault(2), 1);
    due.is("17 restore() is no second", x.was(0, 0), FLASH);
    due.is("15 no second passed", x.count(0), 5);
    x.ask(1);
    x.second(1);
    due.is("15 green again", x.light(1), GREEN);
  }

  private static void restoringBeforeFlash() {
    CrossingKeeper x = Crossings.quiet();
    x.alarm();
    x.second(1);
    x.second(1);
    due.is("15 while all red", x.restore(), 1);
    due.is("15 each is a change", x.count(11), 2);
    due.is("15 also of a red one", x.told(0, 3), 1);
    x.second(4);
    due.is("15 no flash behind it", x.light(0), RED);
    due.is("15 no change behind it", x.count(11), 2);
  }

  private static void nothingElseInAFault() {
    CrossingKeeper x = Crossings.withStages(CAR, REST);
    Crossings.rows(x, 0, 0, 1, 1, 1, 1, 1);
    x.alarm();
    x.second(1);
    due.is("4 read in its second", x.trace(), 1);
    x.ask(1);
    x.second(4);
    due.is("4 not read", x.trace(), 1);
    due.is("4 not asked", x.told(0, 8), NONE);
    due.is("4 not green", x.stageOf(0), NONE);
    due.is("18 next all the same", x.stageOf(1), 1);
    x.restore();
    x.second(1);
    due.is("4 read again", x.trace(), 2);
    due.is("4 the one asked first", x.stageOf(0), 1);
    due.is("4 asked since 5", x.told(0, 8), 5);
  }

  private static void ordersInAFault() {
    CrossingKeeper x = Crossings.ofKinds(CAR);
    x.alarm();
    x.table(0, 7, 8, 9, 0);
    x.table(0, 8, 9, 1, 3);
    x.second(1);
    due.is("a done in its second", x.told(0, 9), 7);
    x.second(4);
    due.is("a done behind it", x.told(0, 9), 8);
    due.is("a gone", x.count(9), 0);
  }

  private static void numbersOfFaults() {
    CrossingKeeper x = Crossings.ofKinds(CAR);
    for (int number = 1; number <= 5; number++) {
      x.alarm();
      due.is("4 one second", x.second(2), 1);
      due.is("25 number", x.fault(2), number);
      due.is("23 faults", x.count(5), number);
      due.is("25 second", x.fault(1), number - 1);
      x.restore();
    }
  }

  private static void faultRefusals() {
    CrossingKeeper x = Crossings.ofKinds(CAR);
    due.is("25 what -1", x.fault(-1), BAD);
    due.is("25 what 4", x.fault(4), BAD);
    due.is("25 what least int", x.fault(Integer.MIN_VALUE), BAD);
  }
}
