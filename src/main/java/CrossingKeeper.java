import java.util.ArrayList;

/** A keeper of a street crossing; ../shared/DOC.md says what each call answers. */
public final class CrossingKeeper {
  public static final int BAD = -1, FULL = -2, STATE = -3, MEET = -4, NONE = -5;

  private static final int CAR = 0, TURN = 1, WALK = 2, TRAM = 3, REST = 4;
  private static final int RED = 0, GREEN = 1, AMBER = 2, FLASH = 3;
  private static final int NO_ROWS = 1, SHORT_ROWS = 2, NO_SUM = 3, NO_PHASE = 4;
  private static final int LAMP = 1, PAIR = 2, ALARM = 3;
  private static final int NO_FAULT = 0, ALL_RED = 1, FLASHING = 2;

  private static final int MOST_PHASES = 8, MOST_STAGES = 6, MOST_DETECTORS = 12;
  private static final int MOST_ORDERS = 16, MOST_PAIRS = 6, PLACES = 4, ROW = 200;
  private static final int MOST_PASSINGS = 127, LEAST_PASSINGS = -128, MOST_OCCUPIED = 10000;
  private static final int MOST_LEAST = 60, MOST_GREATEST = 120, MOST_AMBER = 9;
  private static final int MOST_CLEARING = 20, MOST_SPAN = 60;
  private static final int MOST_SECONDS = 4, MOST_BACK = 60, SECONDS_TO_FLASH = 3;

  private final ArrayList<Phase> phases = new ArrayList<>();
  private final ArrayList<Stage> stages = new ArrayList<>();
  private final ArrayList<Detector> detectors = new ArrayList<>();
  private final ArrayList<Order> orders = new ArrayList<>();
  private final ArrayList<Pair> pairs = new ArrayList<>();
  private final Findings findings = new Findings();
  private final Faults faults = new Faults();
  private final Bodies bodies = new Bodies();
  private int now = 0;
  private int changes = 0;
  private Stage green = null;
  private int greenSince = 0;
  private int greenLeast = 0;
  private int greenGreatest = 0;
  private Stage hurried = null;
  // Behind "no stage yet" stands stage 0, as it does behind the last of all.
  private int latestGreen = -1;

  public CrossingKeeper() {
  }

  // ---- What the crossing is made of

  public int phase(int kind) {
    if (kind < CAR || kind > REST) return BAD;
    if (now > 0) return STATE;
    if (phases.size() >= MOST_PHASES) return FULL;
    Phase made = new Phase(phases.size(), kind);
    phases.add(made);
    return made.number;
  }

  public int conflict(int p, int q, int there, int back) {
    Phase one = phaseAt(p);
    Phase other = phaseAt(q);
    if (one == null || other == null || one == other) return BAD;
    if (!isWithin(there, 0, MOST_CLEARING) || !isWithin(back, 0, MOST_CLEARING)) return BAD;
    if (now > 0) return STATE;
    for (int s = 0; s < stages.size(); s++) {
      Stage stage = stages.get(s);
      if (stage.hasPhase(one) && stage.hasPhase(other)) return MEET;
    }
    one.setClearing(other, there);
    other.setClearing(one, back);
    return 1;
  }

  public int stage(int a, int b, int c, int d) {
    int[] numbers = {a, b, c, d};
    Stage made = new Stage(stages.size());
    for (int k = 0; k < numbers.length; k++) {
      if (numbers[k] == NONE) continue;
      Phase phase = phaseAt(numbers[k]);
      if (phase == null || made.hasPhase(phase)) return BAD;
      made.putPhase(k, phase);
    }
    if (made.isEmpty()) return BAD;
    if (now > 0) return STATE;
    if (made.hasConflict()) return MEET;
    if (stages.size() >= MOST_STAGES) return FULL;
    stages.add(made);
    return made.number;
  }

  public int detector(int p) {
    Phase phase = phaseAt(p);
    if (phase == null) return BAD;
    if (detectors.size() >= MOST_DETECTORS) return FULL;
    Detector made = new Detector(detectors.size());
    detectors.add(made);
    phase.detector = made;
    return made.number;
  }

  public int cut(int d) {
    Detector detector = detectorAt(d);
    if (detector == null) return BAD;
    if (detector.isCutOff()) return STATE;
    return detector.cutOff();
  }

  public int passing(int d, int passings, int occupied) {
    Detector detector = detectorAt(d);
    if (detector == null) return BAD;
    if (!isWithin(passings, LEAST_PASSINGS, MOST_PASSINGS)) return BAD;
    if (!isWithin(occupied, 0, MOST_OCCUPIED)) return BAD;
    if (detector.isCutOff()) return STATE;
    return detector.addPlace(passings, occupied) ? detector.size : FULL;
  }

  public int table(int p, int least, int greatest, int amber, int at) {
    Phase phase = phaseAt(p);
    if (phase == null || at < now) return BAD;
    if (!isWithin(least, 1, MOST_LEAST)) return BAD;
    if (!isWithin(greatest, least, MOST_GREATEST)) return BAD;
    if (!isWithin(amber, 0, MOST_AMBER)) return BAD;
    if (orders.size() >= MOST_ORDERS) return FULL;
    orders.add(new Order(phase, least, greatest, amber, at));
    return orders.size();
  }

  public int lamp(int p, boolean out) {
    Phase phase = phaseAt(p);
    if (phase == null) return BAD;
    int before = phase.lampOut ? 1 : 0;
    phase.lampOut = out;
    return before;
  }

  public int pair(int d, int e, int span) {
    Detector one = detectorAt(d);
    Detector other = detectorAt(e);
    if (one == null || other == null || one == other) return BAD;
    if (!isWithin(span, 1, MOST_SPAN)) return BAD;
    if (pairs.size() >= MOST_PAIRS) return FULL;
    pairs.add(new Pair(one, other, span));
    return pairs.size() - 1;
  }

  // ---- What is wanted, and what happens

  public int ask(int p) {
    Phase phase = phaseAt(p);
    if (phase == null) return BAD;
    if (phase.isAsked() || phase.light == GREEN) return 0;
    phase.askedSince = now;
    return 1;
  }

  public int hurry(int s) {
    Stage stage = stageAt(s);
    if (stage == null) return BAD;
    if (faults.stays != NO_FAULT) return STATE;
    if (stage == green) return 0;
    hurried = stage;
    return 1;
  }

  public int second(int n) {
    if (!isWithin(n, 0, MOST_SECONDS)) return BAD;
    int faultsBefore = faults.met;
    int passed = 0;
    while (passed < n && faults.met == faultsBefore) {
      doOrders(now);
      if (faults.stays == NO_FAULT) runLights(now);
      else flashIfDue(now);
      keepLights(now);
      now++;
      passed++;
    }
    return passed;
  }

  public int alarm() {
    if (faults.stays != NO_FAULT) return STATE;
    faults.alarmed = true;
    return 1;
  }

  public int restore() {
    if (faults.stays == NO_FAULT) return STATE;
    faults.stays = NO_FAULT;
    changeAllLights(RED);
    return 1;
  }

  // ---- What is told

  public int light(int p) {
    Phase phase = phaseAt(p);
    return phase == null ? BAD : phase.light;
  }

  public int was(int p, int n) {
    Phase phase = phaseAt(p);
    if (phase == null || !isWithin(n, 0, MOST_BACK)) return BAD;
    return n < now ? phase.lightBehind(now - 1 - n) : NONE;
  }

  public int stageOf(int what) {
    switch (what) {
      case 0: return numberOf(green);
      case 1: return numberOf(nextStage());
      case 2: return numberOf(hurried);
      case 3: return green == null ? NONE : now - greenSince;
      default: return BAD;
    }
  }

  public int place(int s, int k) {
    Stage stage = stageAt(s);
    if (stage == null || !isWithin(k, 0, PLACES - 1)) return BAD;
    Phase phase = stage.phaseIn(k);
    if (phase != null) return phase.number;
    findings.add(NO_PHASE, NONE);
    return NONE;
  }

  public int told(int p, int what) {
    Phase phase = phaseAt(p);
    if (phase == null) return BAD;
    switch (what) {
      case 0: return phase.kind;
      case 1: return phase.detector == null ? NONE : phase.detector.number;
      case 2: return phase.entered;
      case 3: return phase.left;
      case 4: return phase.gap;
      case 5: return phase.greens;
      case 6: return phase.ends;
      case 7: return phase.free;
      case 8: return phase.askedSince;
      case 9: return phase.least;
      case 10: return phase.greatest;
      case 11: return phase.amber;
      default: return BAD;
    }
  }

  public int length(int d) {
    Detector detector = detectorAt(d);
    if (detector == null) return BAD;
    return detector.isCutOff() ? NONE : detector.size;
  }

  public int bound() {
    int together = 0;
    for (int s = 0; s < stages.size(); s++) together += stages.get(s).greatestGreen();
    int amber = 0;
    int clearing = 0;
    for (int p = 0; p < phases.size(); p++) {
      amber = Math.max(amber, phases.get(p).amber);
      clearing = Math.max(clearing, phases.get(p).greatestClearing());
    }
    return together + stages.size() * (amber + clearing);
  }

  public int count(int what) {
    switch (what) {
      case 0: return now;
      case 1:
      case 2:
      case 3:
      case 4: return findings.howMany(what);
      case 5: return faults.met;
      case 6: return phases.size();
      case 7: return stages.size();
      case 8: return detectors.size();
      case 9: return orders.size();
      case 10: return pairs.size();
      case 11: return changes;
      default: return BAD;
    }
  }

  public int finding(int what) {
    switch (what) {
      case 0: return findings.latestKind;
      case 1: return findings.latestPhase;
      default: return BAD;
    }
  }

  public int fault(int what) {
    switch (what) {
      case 0: return faults.latestKind;
      case 1: return faults.latestSecond;
      case 2: return faults.met;
      case 3: return faults.stays;
      default: return BAD;
    }
  }

  public int trace() {
    return bodies.sum;
  }

  // ---- Numbers

  private static boolean isWithin(int number, int least, int greatest) {
    return number >= least && number <= greatest;
  }

  private Phase phaseAt(int p) {
    return p >= 0 && p < phases.size() ? phases.get(p) : null;
  }

  private Stage stageAt(int s) {
    return s >= 0 && s < stages.size() ? stages.get(s) : null;
  }

  private Detector detectorAt(int d) {
    return d >= 0 && d < detectors.size() ? detectors.get(d) : null;
  }

  private static int numberOf(Stage stage) {
    return stage == null ? NONE : stage.number;
  }

  // ---- A second (part 3 of the document)

  private void doOrders(int t) {
    for (int i = 0; i < orders.size(); i++) {
      if (orders.get(i).at == t) orders.get(i).changeTable();
    }
    for (int i = orders.size() - 1; i >= 0; i--) {
      if (orders.get(i).at == t) orders.remove(i);
    }
  }

  private void runLights(int t) {
    readPhases(t);
    lookAtPairs(t);
    int kind = faultToMeet();
    if (kind != NO_FAULT) {
      meetFault(kind, t);
      return;
    }
    if (green != null && endsIn(green, t)) endStage(green, t);
    endAmbers(t);
    Stage next = green == null ? nextStage() : null;
    if (next != null && next.mayBeGreen(t)) beginStage(next, t);
  }

  private void keepLights(int t) {
    for (int p = 0; p < phases.size(); p++) phases.get(p).keepLight(t);
  }

  private void readPhases(int t) {
    for (int p = 0; p < phases.size(); p++) {
      Phase phase = phases.get(p);
      if (phase.light == GREEN) {
        phase.holding = holdsIn(phase, t);
      } else if (phase.kind != REST && !phase.isAsked() && asksIn(phase, t)) {
        phase.askedSince = t;
      }
    }
  }

  private boolean holdsIn(Phase phase, int t) {
    if (phase.kind == REST) return bodies.holdsOf(REST, 0);
    Detector rows = rowsUntil(phase, t);
    return rows == null || bodies.holdsOf(phase.kind, rows.passingsAt(t));
  }

  private boolean asksIn(Phase phase, int t) {
    Detector rows = rowsUntil(phase, t);
    return rows == null || bodies.asksOf(phase.kind, rows.passingsAt(t), rows.occupiedAt(t));
  }

  /** The detector of a phase if its rows reach place t; else null, with the finding told. */
  private Detector rowsUntil(Phase phase, int t) {
    Detector detector = phase.detector;
    if (detector == null || detector.isCutOff()) {
      findings.add(NO_ROWS, phase.number);
      return null;
    }
    if (!detector.reaches(t)) {
      findings.add(SHORT_ROWS, phase.number);
      return null;
    }
    return detector;
  }

  private boolean endsIn(Stage stage, int t) {
    int lasted = t - greenSince;
    if (nextStage() == null || lasted < greenLeast) return false;
    return lasted >= greenGreatest || hurried != null || !stage.isHeld();
  }

  private void endStage(Stage stage, int t) {
    for (Phase phase : stage.places) {
      if (phase == null) continue;
      changeLight(phase, phase.amber == 0 ? RED : AMBER, t);
      setEnd(phase, t + phase.amber);
    }
    green = null;
  }

  private void setEnd(Phase phase, int t) {
    phase.ends = t;
    for (int q = 0; q < phases.size(); q++) {
      Phase other = phases.get(q);
      int clearing = phase.clearingTo(other);
      if (clearing != NONE) other.free = Math.max(other.free, t + clearing);
    }
  }

  private void endAmbers(int t) {
    for (int p = 0; p < phases.size(); p++) {
      Phase phase = phases.get(p);
      if (phase.light == AMBER && phase.ends <= t) changeLight(phase, RED, t);
    }
  }

  private void beginStage(Stage stage, int t) {
    green = stage;
    greenSince = t;
    greenLeast = stage.leastGreen();
    greenGreatest = stage.greatestGreen();
    latestGreen = stage.number;
    if (hurried == stage) hurried = null;
    for (Phase phase : stage.places) {
      if (phase == null) continue;
      changeLight(phase, GREEN, t);
      phase.greens++;
      phase.askedSince = NONE;
    }
  }

  /** The stage that step (e) would choose, of those that are not green; null if none is wanted. */
  private Stage nextStage() {
    if (hurried != null) return hurried;
    int all = stages.size();
    Stage next = null;
    int first = NONE;
    for (int i = 1; i <= all; i++) {
      Stage stage = stages.get(Math.floorMod(latestGreen + i, all));
      int since = stage.firstAsked();
      if (stage == green || since == NONE) continue;
      if (next == null || since < first) {
        next = stage;
        first = since;
      }
    }
    return next;
  }

  // ---- Lights: every change goes through changeLight, the member of the document

  private void changeLight(Phase phase, int light, int t) {
    phase.entered++;
    if (phase.light == GREEN) phase.gap = gapOf(phase, t);
    phase.light = light;
    changes++;
    phase.left++;
  }

  private void changeAllLights(int light) {
    for (int p = 0; p < phases.size(); p++) changeLight(phases.get(p), light, now);
  }

  private int gapOf(Phase phase, int t) {
    if (phase.kind == REST) return 0;
    Detector rows = rowsUntil(phase, t - 1);
    if (rows == null) return 0;
    int sum = 0;
    for (int i = greenSince; i < t; i++) sum += rows.passingsAt(i);
    if (sum == 0) {
      findings.add(NO_SUM, phase.number);
      return 0;
    }
    return (t - greenSince) / sum;
  }

  // ---- Faults (part 4 of the document)

  private void lookAtPairs(int t) {
    for (int i = 0; i < pairs.size(); i++) pairs.get(i).lookAt(t);
  }

  private int faultToMeet() {
    for (int p = 0; p < phases.size(); p++) {
      Phase phase = phases.get(p);
      if (phase.lampOut && phase.isLit()) return LAMP;
    }
    for (int i = 0; i < pairs.size(); i++) {
      if (pairs.get(i).isBroken()) return PAIR;
    }
    return faults.alarmed ? ALARM : NO_FAULT;
  }

  private void meetFault(int kind, int t) {
    faults.meet(kind, t);
    for (int p = 0; p < phases.size(); p++) {
      Phase phase = phases.get(p);
      if (!phase.isLit()) continue;
      changeLight(phase, RED, t);
      setEnd(phase, t);
    }
    green = null;
    hurried = null;
    for (int i = 0; i < pairs.size(); i++) pairs.get(i).beginAnew();
  }

  private void flashIfDue(int t) {
    if (faults.stays != ALL_RED || t - faults.latestSecond < SECONDS_TO_FLASH) return;
    changeAllLights(FLASH);
    faults.stays = FLASHING;
  }

  // ---- The parts

  private static final class Phase {
    final int number;
    final int kind;
    final int[] clearings = new int[MOST_PHASES];
    final int[] lightsBehind = new int[MOST_BACK + 1];
    Detector detector = null;
    boolean lampOut = false;
    int light = RED;
    boolean holding = false;
    int askedSince = NONE;
    int ends = NONE;
    int free = 0;
    int least = 5;
    int greatest = 20;
    int amber = 3;
    int gap = 0;
    int greens = 0;
    int entered = 0;
    int left = 0;

    Phase(int number, int kind) {
      this.number = number;
      this.kind = kind;
      for (int q = 0; q < clearings.length; q++) clearings[q] = NONE;
    }

    boolean isAsked() {
      return askedSince != NONE;
    }

    boolean isLit() {
      return light == GREEN || light == AMBER;
    }

    void setClearing(Phase other, int seconds) {
      int q = other.number;
      if (q >= 0 && q < clearings.length) clearings[q] = seconds;
    }

    /** NONE where the two do not conflict. */
    int clearingTo(Phase other) {
      int q = other.number;
      return q >= 0 && q < clearings.length ? clearings[q] : NONE;
    }

    int greatestClearing() {
      int most = 0;
      for (int clearing : clearings) most = Math.max(most, clearing);
      return most;
    }

    /** Only the latest ones are asked for, so a place is used again once it is too old. */
    void keepLight(int t) {
      lightsBehind[Math.floorMod(t, MOST_BACK + 1)] = light;
    }

    int lightBehind(int t) {
      return lightsBehind[Math.floorMod(t, MOST_BACK + 1)];
    }
  }

  private static final class Stage {
    final int number;
    final Phase[] places = new Phase[PLACES];

    Stage(int number) {
      this.number = number;
    }

    void putPhase(int k, Phase phase) {
      if (k >= 0 && k < places.length) places[k] = phase;
    }

    Phase phaseIn(int k) {
      return k >= 0 && k < places.length ? places[k] : null;
    }

    boolean hasPhase(Phase wanted) {
      for (Phase phase : places) {
        if (phase != null && phase == wanted) return true;
      }
      return false;
    }

    boolean isEmpty() {
      for (Phase phase : places) {
        if (phase != null) return false;
      }
      return true;
    }

    boolean hasConflict() {
      for (Phase one : places) {
        for (Phase other : places) {
          if (one != null && other != null && one.clearingTo(other) != NONE) return true;
        }
      }
      return false;
    }

    int leastGreen() {
      int least = 0;
      for (Phase phase : places) {
        if (phase != null) least = Math.max(least, phase.least);
      }
      return least;
    }

    int greatestGreen() {
      int greatest = MOST_GREATEST;
      for (Phase phase : places) {
        if (phase != null) greatest = Math.min(greatest, phase.greatest);
      }
      return Math.max(greatest, leastGreen());
    }

    boolean isHeld() {
      for (Phase phase : places) {
        if (phase != null && phase.holding) return true;
      }
      return false;
    }

    int firstAsked() {
      int first = NONE;
      for (Phase phase : places) {
        if (phase == null || !phase.isAsked()) continue;
        if (first == NONE || phase.askedSince < first) first = phase.askedSince;
      }
      return first;
    }

    boolean mayBeGreen(int t) {
      for (Phase phase : places) {
        if (phase != null && (phase.light != RED || phase.free > t)) return false;
      }
      return true;
    }
  }

  private static final class Detector {
    final int number;
    // Both are null, and size is 0, once the detector is cut off.
    private byte[] passings = new byte[ROW];
    private short[] occupied = new short[ROW];
    int size = 0;

    Detector(int number) {
      this.number = number;
    }

    boolean isCutOff() {
      return passings == null || occupied == null;
    }

    int cutOff() {
      int before = size;
      passings = null;
      occupied = null;
      size = 0;
      return before;
    }

    boolean addPlace(int passing, int share) {
      if (isCutOff() || size >= ROW) return false;
      passings[size] = (byte) passing;
      occupied[size] = (short) share;
      size++;
      return true;
    }

    boolean reaches(int t) {
      return t >= 0 && t < size;
    }

    int passingsAt(int t) {
      return passings != null && reaches(t) ? passings[t] : 0;
    }

    int occupiedAt(int t) {
      return occupied != null && reaches(t) ? occupied[t] : 0;
    }
  }

  private static final class Order {
    final Phase phase;
    final int least;
    final int greatest;
    final int amber;
    final int at;

    Order(Phase phase, int least, int greatest, int amber, int at) {
      this.phase = phase;
      this.least = least;
      this.greatest = greatest;
      this.amber = amber;
      this.at = at;
    }

    void changeTable() {
      phase.least = least;
      phase.greatest = greatest;
      phase.amber = amber;
    }
  }

  private static final class Pair {
    final Detector one;
    final Detector other;
    final int span;
    int running = 0;

    Pair(Detector one, Detector other, int span) {
      this.one = one;
      this.other = other;
      this.span = span;
    }

    void lookAt(int t) {
      running = differIn(t) ? running + 1 : 0;
    }

    private boolean differIn(int t) {
      if (!one.reaches(t) || !other.reaches(t)) return false;
      return one.passingsAt(t) > 0 != other.passingsAt(t) > 0;
    }

    boolean isBroken() {
      return running >= span;
    }

    void beginAnew() {
      running = 0;
    }
  }

  private static final class Findings {
    private final int[] byKind = new int[NO_PHASE + 1];
    int latestKind = 0;
    int latestPhase = NONE;

    void add(int kind, int phase) {
      if (kind < 0 || kind >= byKind.length) return;
      byKind[kind]++;
      latestKind = kind;
      latestPhase = phase;
    }

    int howMany(int kind) {
      return kind >= 0 && kind < byKind.length ? byKind[kind] : 0;
    }
  }

  private static final class Faults {
    int met = 0;
    int latestKind = 0;
    int latestSecond = NONE;
    int stays = NO_FAULT;
    boolean alarmed = false;

    void meet(int kind, int t) {
      met++;
      latestKind = kind;
      latestSecond = t;
      stays = ALL_RED;
      alarmed = false;
    }
  }

  /** What each kind asks and holds for; the sum is the trace of what ran. */
  private static final class Bodies {
    int sum = 0;

    boolean asksOf(int kind, int passings, int occupied) {
      switch (kind) {
        case CAR: return asksAsCar(passings, occupied);
        case TURN: return asksAsTurn(passings, occupied);
        case WALK: return asksAsWalk(passings);
        case TRAM: return asksAsTram(passings);
        default: return false;
      }
    }

    boolean holdsOf(int kind, int passings) {
      switch (kind) {
        case CAR:
        case TURN: return holdsAsCar(passings);
        case WALK: return holdsAsWalk();
        case TRAM: return holdsAsTram(passings);
        default: return holdsAsRest();
      }
    }

    private boolean asksAsCar(int passings, int occupied) {
      sum += 1;
      return passings > 0 || occupied >= 5000;
    }

    private boolean asksAsTurn(int passings, int occupied) {
      sum += 10;
      return occupied >= 2000 || asksAsCar(passings, occupied);
    }

    private boolean asksAsWalk(int passings) {
      sum += 100;
      return passings > 0;
    }

    private boolean asksAsTram(int passings) {
      sum += 1000;
      return passings != 0;
    }

    private boolean holdsAsCar(int passings) {
      sum += 5;
      return passings > 0;
    }

    private boolean holdsAsWalk() {
      sum += 50;
      return false;
    }

    private boolean holdsAsTram(int passings) {
      sum += 500;
      return passings != 0;
    }

    private boolean holdsAsRest() {
      sum += 5000;
      return true;
    }
  }
}
