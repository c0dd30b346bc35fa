import java.util.Random;

/** Runs of random calls (the same each time): no call throws, each answers as PlainModel does. */
public final class RandomRunsTest {
  private static final int NONE = CrossingKeeper.NONE;
  private static final int RUNS = 3000, CALLS = 512;
  private static final String[] TOLD = {
    "light", "was", "stageOf", "place", "told", "length", "bound", "count", "finding", "fault",
    "trace"
  };

  private static final Due due = new Due();
  /** How often each count(what) was above 0 at the end: a run that meets nothing proves nothing. */
  private static final int[] reached = new int[12];

  private final Random random;
  private final int seed;
  private final CrossingKeeper keeper = new CrossingKeeper();
  private final PlainModel model = new PlainModel();
  private int calls = 0;
  private int phases = 0;
  private int now = 0;

  private RandomRunsTest(int seed) {
    this.seed = seed;
    this.random = new Random(seed);
  }

  public static void main(String[] args) {
    for (int seed = 0; seed < RUNS; seed++) new RandomRunsTest(seed).run();
    for (int what = 0; what < reached.length; what++) {
      due.isTrue("count(" + what + ") above 0 in many runs", reached[what] > RUNS / 10);
    }
    due.end("RandomRunsTest");
  }

  private void run() {
    build();
    while (calls < CALLS) {
      int choice = random.nextInt(100);
      if (choice < 35) now += call("second", random.nextInt(5));
      else if (choice < 60) tell();
      else if (choice < 97) disturb();
      else wild();
    }
    for (int what = 0; what < reached.length; what++) {
      if (keeper.count(what) > 0) reached[what]++;
    }
  }

  private void build() {
    phases = random.nextBoolean() ? 2 + random.nextInt(2) : random.nextInt(9);
    for (int p = 0; p < phases; p++) call("phase", random.nextInt(5));
    for (int i = random.nextInt(9); i > 0; i--) {
      int there = random.nextInt(random.nextBoolean() ? 3 : 23);
      call("conflict", phase(), phase(), there, random.nextInt(4));
    }
    for (int i = random.nextInt(10); i > 0; i--) call("stage", place(), place(), place(), place());
    for (int p = 0; p < phases; p++) if (random.nextInt(8) > 0) call("detector", p);
    for (int i = random.nextInt(12); i > 0; i--) order();
    for (int i = random.nextInt(3); i > 0; i--) pair();
    int places = random.nextInt(240 / Math.max(phases, 1));
    for (int d = 0; d < phases; d++) {
      for (int i = 0; i < places; i++) passing(d);
    }
  }

  private int phase() {
    return random.nextInt(20) == 0 ? random.nextInt(12) - 2 : random.nextInt(Math.max(phases, 1));
  }

  private int place() {
    return random.nextInt(5) < 3 ? NONE : phase();
  }

  private int detector() {
    return random.nextInt(random.nextBoolean() ? 4 : 13);
  }

  private void order() {
    int least = random.nextInt(random.nextInt(9) == 0 ? 63 : 4);
    int greatest = least + random.nextInt(random.nextInt(9) == 0 ? 123 : 9) - random.nextInt(2);
    int at = now + random.nextInt(6) - random.nextInt(2);
    call("table", phase(), least, greatest, random.nextInt(4), at);
  }

  private void pair() {
    call("pair", detector(), detector(), random.nextInt(random.nextInt(5) == 0 ? 63 : 5));
  }

  private void passing(int d) {
    int passings = random.nextInt(9) == 0 ? random.nextInt(260) - 130 : random.nextInt(3) - 1;
    int occupied = random.nextInt(3) == 0 ? random.nextInt(10100) - 50 : random.nextInt(3) * 1000;
    if (random.nextBoolean()) passings = 0;
    call("passing", d, passings, occupied);
  }

  private void disturb() {
    switch (random.nextInt(26)) {
      case 0: call("phase", random.nextInt(6)); break;
      case 1: call("conflict", phase(), phase(), random.nextInt(9), random.nextInt(9)); break;
      case 2: call("stage", place(), place(), place(), place()); break;
      case 3: call("detector", phase()); break;
      case 4: if (random.nextInt(4) == 0) call("cut", detector()); break;
      case 5:
      case 6:
      case 7: order(); break;
      case 8: call("lamp", phase(), random.nextInt(4) == 0 ? 1 : 0); break;
      case 9: if (random.nextInt(3) == 0) pair(); break;
      case 10:
      case 11: call("hurry", random.nextInt(7)); break;
      case 12: if (random.nextInt(4) == 0) call("alarm"); break;
      case 13:
      case 14:
      case 15: call("restore"); break;
      case 16:
      case 17:
      case 18: call("ask", phase()); break;
      default: passing(detector()); break;
    }
  }

  private void tell() {
    String name = TOLD[random.nextInt(TOLD.length)];
    int number = random.nextInt(9);
    switch (name) {
      case "bound":
      case "trace": call(name); break;
      case "was": call(name, phase(), random.nextInt(66) - 2); break;
      case "told": call(name, phase(), random.nextInt(14) - 1); break;
      case "place": call(name, number, random.nextInt(6) - 1); break;
      case "length": call(name, detector()); break;
      case "light": call(name, phase()); break;
      default: call(name, random.nextInt(14) - 1); break;
    }
  }

  /** Numbers from the ends of int: what is added to them must not wrap into what is allowed. */
  private void wild() {
    int[] ends = {Integer.MIN_VALUE, Integer.MAX_VALUE, -1, -5, -6, 256, 65536};
    int[] a = new int[5];
    for (int i = 0; i < a.length; i++) a[i] = ends[random.nextInt(ends.length)];
    switch (random.nextInt(12)) {
      case 0: call("phase", a[0]); break;
      case 1: call("conflict", a[0], a[1], a[2], a[3]); break;
      case 2: call("stage", a[0], a[1], a[2], a[3]); break;
      case 3: call("passing", a[0], a[1], a[2]); break;
      case 4: call("passing", 0, a[1], a[2]); break;
      case 5: call("table", 0, 1, 2, 3, a[0]); break;
      case 6: call("table", 0, a[0], a[1], a[2], a[3]); break;
      case 7: call("pair", 0, 1, a[0]); break;
      case 8: call("second", a[0]); break;
      case 9: call("was", 0, a[0]); break;
      case 10: call("told", 0, a[0]); break;
      default: call(TOLD[7 + random.nextInt(3)], a[0]); break;
    }
  }

  private int call(String name, int... a) {
    if (calls >= CALLS) return 0;
    calls++;
    int want = model.call(name, a);
    Call call = new Call(name, a);
    due.is(() -> "seed " + seed + " call " + calls + " " + call, call.on(keeper), want);
    return want;
  }
}
