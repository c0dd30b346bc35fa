/** Part 2 (reading, findings) with the promises that tell of it: 23, 24 and 26. */
public final class ReadingTest {
  private static final int NONE = Crossings.NONE;
  private static final int CAR = 0, TURN = 1, WALK = 2, TRAM = 3, REST = 4;
  private static final Due due = new Due();

  public static void main(String[] args) {
    asksByKind();
    holdsByKind();
    restIsNotRead();
    askedOnesAreNotRead();
    findingsOfAsking();
    findingsOfHolding();
    latestFinding();
    orderOfReading();
    traceOfManySeconds();
    due.end("ReadingTest");
  }

  private static void asks(int kind, int passings, int occupied, boolean want, int trace) {
    String name = "asks " + kind + " " + passings + " " + occupied;
    CrossingKeeper x = Crossings.ofKinds(kind);
    x.detector(0);
    x.passing(0, passings, occupied);
    x.second(1);
    due.is(name + " since", x.told(0, 8), want ? 0 : NONE);
    due.is(name + " trace", x.trace(), trace);
    due.is(name + " finding", x.finding(0), 0);
  }

  private static void asksByKind() {
    asks(CAR, 0, 0, false, 1);
    asks(CAR, 1, 0, true, 1);
    asks(CAR, -1, 4999, false, 1);
    asks(CAR, 0, 5000, true, 1);
    asks(CAR, -128, 10000, true, 1);
    asks(CAR, 127, 4999, true, 1);
    asks(TURN, 0, 1999, false, 11);
    asks(TURN, 0, 2000, true, 10);
    asks(TURN, 1, 1999, true, 11);
    asks(TURN, -1, 0, false, 11);
    asks(TURN, 1, 5000, true, 10);
    asks(WALK, 1, 0, true, 100);
    asks(WALK, 0, 10000, false, 100);
    asks(WALK, -1, 10000, false, 100);
    asks(TRAM, 1, 0, true, 1000);
    asks(TRAM, -1, 0, true, 1000);
    asks(TRAM, 0, 10000, false, 1000);
  }

  /** Stage 0 is green since 0, its least is 1: it ends in second 1 unless its phase holds. */
  private static CrossingKeeper greenOf(int kind) {
    CrossingKeeper x = Crossings.ofKinds(kind, REST);
    x.stage(0, NONE, NONE, NONE);
    x.stage(1, NONE, NONE, NONE);
    x.table(0, 1, 20, 3, 0);
    x.ask(0);
    x.ask(1);
    x.second(1);
    return x;
  }

  private static void holds(int kind, int passings, int occupied, boolean want, int trace) {
    String name = "holds " + kind + " " + passings + " " + occupied;
    CrossingKeeper x = greenOf(kind);
    x.detector(0);
    x.passing(0, 1, 0);
    x.passing(0, passings, occupied);
    due.is(name + " green", x.light(0), 1);
    due.is(name + " no trace before", x.trace(), 0);
    x.second(1);
    due.is(name, x.light(0), want ? 1 : 2);
    due.is(name + " trace", x.trace(), trace);
  }

  private static void holdsByKind() {
    holds(CAR, 1, 0, true, 5);
    holds(CAR, 0, 10000, false, 5);
    holds(CAR, -1, 0, false, 5);
    holds(TURN, 1, 0, true, 5);
    holds(TURN, 0, 10000, false, 5);
    holds(WALK, 1, 0, false, 50);
    holds(WALK, 0, 0, false, 50);
    holds(TRAM, 1, 0, true, 500);
    holds(TRAM, -1, 0, true, 500);
    holds(TRAM, 0, 10000, false, 500);
    holds(REST, 0, 0, true, 5000);
  }

  private static void restIsNotRead() {
    CrossingKeeper x = Crossings.ofKinds(REST, REST);
    x.stage(0, NONE, NONE, NONE);
    x.second(4);
    due.is("rest never asks", x.told(0, 8), NONE);
    due.is("rest gives no finding", x.count(1), 0);
    due.is("rest traces nothing while red", x.trace(), 0);
    due.is("rest may be asked", x.ask(0), 1);
    x.second(4);
    due.is("rest is green", x.light(0), 1);
    due.is("rest holds in three seconds", x.trace(), 15000);
    due.is("rest gives no finding when green", x.count(1), 0);
  }

  private static void askedOnesAreNotRead() {
    CrossingKeeper x = Crossings.ofKinds(CAR);
    x.detector(0);
    Crossings.rows(x, 0, 0, 1, 1, 1);
    x.second(4);
    due.is("asked since 1", x.told(0, 8), 1);
    due.is("read twice", x.trace(), 2);
    x.second(4);
    due.is("no finding while asked", x.finding(0), 0);
  }

  private static void findingsOfAsking() {
    for (int kind = CAR; kind <= TRAM; kind++) {
      CrossingKeeper x = Crossings.ofKinds(kind, kind, kind);
      x.detector(1);
      x.detector(2);
      x.passing(1, 1, 0);
      x.cut(1);
      x.second(1);
      for (int p = 0; p < 3; p++) due.is("asked by a finding " + kind, x.told(p, 8), 0);
      due.is("findings 1 " + kind, x.count(1), 2);
      due.is("findings 2 " + kind, x.count(2), 1);
      due.is("no body ran " + kind, x.trace(), 0);
    }
  }

  private static void findingsOfHolding() {
    for (int kind = CAR; kind <= TRAM; kind++) {
      CrossingKeeper x = greenOf(kind);
      x.second(1);
      due.is("holds without a detector " + kind, x.light(0), 1);
      due.is("finding 1 " + kind, x.count(1), 1);
      x.detector(0);
      Crossings.places(x, 0, 2, 0);
      x.second(1);
      due.is("holds with short rows " + kind, x.light(0), 1);
      due.is("finding 2 " + kind, x.count(2), 1);
      x.cut(0);
      x.second(1);
      due.is("holds when cut off " + kind, x.light(0), 1);
      due.is("finding 1 again " + kind, x.count(1), 2);
      due.is("no body ran " + kind, x.trace(), 0);
    }
  }

  private static void latestFinding() {
    CrossingKeeper x = Crossings.ofKinds(CAR, CAR);
    x.stage(NONE, 1, NONE, NONE);
    x.detector(1);
    x.second(1);
    due.is("24 kind", x.finding(0), 2);
    due.is("24 phase", x.finding(1), 1);
    x.place(0, 0);
    due.is("24 kind of an empty place", x.finding(0), 4);
    due.is("24 no phase", x.finding(1), NONE);
    x.place(0, 3);
    due.is("23 findings 4", x.count(4), 2);
    due.is("23 findings 1", x.count(1), 1);
    due.is("23 findings 2", x.count(2), 1);
    due.is("24 what -1", x.finding(-1), Crossings.BAD);
    due.is("24 what 2", x.finding(2), Crossings.BAD);
  }

  private static void orderOfReading() {
    CrossingKeeper x = Crossings.ofKinds(CAR, CAR, CAR);
    x.detector(1);
    x.second(1);
    due.is("by number: the last one", x.finding(1), 2);
    due.is("by number: its kind", x.finding(0), 1);
  }

  private static void traceOfManySeconds() {
    CrossingKeeper x = Crossings.withStages(CAR, TURN, WALK, TRAM);
    for (int d = 0; d < 4; d++) Crossings.places(x, d, 4, 0);
    x.second(4);
    due.is("26 all ask in four seconds", x.trace(), 4 * 1112);
    due.is("26 none was asked", x.stageOf(1), NONE);
  }
}
