/** Small crossings that several tests begin with. */
final class Crossings {
  static final int BAD = CrossingKeeper.BAD, FULL = CrossingKeeper.FULL;
  static final int STATE = CrossingKeeper.STATE, MEET = CrossingKeeper.MEET;
  static final int NONE = CrossingKeeper.NONE;
  static final int CAR = 0, TURN = 1, WALK = 2, TRAM = 3, REST = 4;
  static final int RED = 0, GREEN = 1, AMBER = 2, FLASH = 3;

  private Crossings() {
  }

  /** Phases of these kinds, and nothing else. */
  static CrossingKeeper ofKinds(int... kinds) {
    CrossingKeeper x = new CrossingKeeper();
    for (int kind : kinds) x.phase(kind);
    return x;
  }

  /** Phases of these kinds, each with a stage and a detector of its own number. */
  static CrossingKeeper withStages(int... kinds) {
    CrossingKeeper x = ofKinds(kinds);
    for (int p = 0; p < kinds.length; p++) {
      x.stage(p, NONE, NONE, NONE);
      x.detector(p);
    }
    return x;
  }

  /** Rows of one detector: these passings, nothing occupied. */
  static void rows(CrossingKeeper x, int d, int... passings) {
    for (int passing : passings) x.passing(d, passing, 0);
  }

  /** As many places more with the same passings. */
  static void places(CrossingKeeper x, int d, int howMany, int passings) {
    for (int i = 0; i < howMany; i++) x.passing(d, passings, 0);
  }

  static void seconds(CrossingKeeper x, int n) {
    for (int i = 0; i < n; i++) x.second(1);
  }

  /**
   * Two cars in conflict (2 there, 3 back), stage 0 and 1, rows of 0 so that nothing asks by
   * itself; least 2, greatest 6, amber 1 from second 0 on.
   */
  static CrossingKeeper quiet() {
    CrossingKeeper x = withStages(CAR, CAR);
    x.conflict(0, 1, 2, 3);
    places(x, 0, 60, 0);
    places(x, 1, 60, 0);
    x.table(0, 2, 6, 1, 0);
    x.table(1, 2, 6, 1, 0);
    return x;
  }
}
