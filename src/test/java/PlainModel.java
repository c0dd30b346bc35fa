import java.util.ArrayDeque;
import java.util.ArrayList;
import java.util.Arrays;
import java.util.HashMap;
import java.util.List;
import java.util.Map;

/**
 * The document written down a second time, in another way: rows of numbers in place of objects,
 * and findings as exceptions. RandomRunsTest holds the program against it.
 */
final class PlainModel {
  private static final int BAD = -1, FULL = -2, STATE = -3, MEET = -4, NONE = -5;

  private static final class Refused extends RuntimeException {
    private static final long serialVersionUID = 1L;
    final int answer;

    Refused(int answer) {
      super(null, null, false, false);
      this.answer = answer;
    }
  }

  private static final class Found extends Exception {
    private static final long serialVersionUID = 1L;
    final int kind;

    Found(int kind) {
      super(null, null, false, false);
      this.kind = kind;
    }
  }

  private final List<Integer> kinds = new ArrayList<>();
  private final Map<Integer, Integer> clearing = new HashMap<>();
  private final List<int[]> stages = new ArrayList<>();
  private final List<List<int[]>> detectors = new ArrayList<>();
  private final List<int[]> orders = new ArrayList<>();
  private final List<int[]> pairs = new ArrayList<>();
  private final int[][] table = new int[8][];
  private final int[] detectorOf = new int[8], light = new int[8], changed = new int[8];
  private final int[] gap = new int[8], greens = new int[8], ends = new int[8], free = new int[8];
  private final int[] asked = new int[8];
  private final boolean[] out = new boolean[8], holds = new boolean[8];
  private final ArrayDeque<int[]> past = new ArrayDeque<>();
  private final int[] found = new int[5];
  private int foundKind = 0, foundPhase = NONE;
  private int faultKind = 0, faultSecond = NONE, faults = 0, faultStays = 0;
  private boolean alarm = false;
  private int now = 0, green = NONE, since = 0, least = 0, greatest = 0, latest = NONE;
  private int hurried = NONE;
  private int trace = 0;

  PlainModel() {
    Arrays.fill(detectorOf, NONE);
    Arrays.fill(ends, NONE);
    Arrays.fill(asked, NONE);
  }

  /** One call by its name; booleans come as 0 and 1. */
  int call(String name, int... a) {
    try {
      return answer(name, a);
    } catch (Refused refused) {
      return refused.answer;
    }
  }

  private int answer(String name, int[] a) {
    switch (name) {
      case "phase": return phase(a[0]);
      case "conflict": return conflict(a[0], a[1], a[2], a[3]);
      case "stage": return stage(a);
      case "detector": return detector(a[0]);
      case "cut": return cut(a[0]);
      case "passing": return passing(a[0], a[1], a[2]);
      case "table": return order(a);
      case "lamp": return lamp(a[0], a[1] == 1);
      case "pair": return pair(a[0], a[1], a[2]);
      case "ask": return ask(a[0]);
      case "hurry": return hurry(a[0]);
      case "second": return second(a[0]);
      case "alarm": return alarm();
      case "restore": return restore();
      default: return told(name, a);
    }
  }

  private int told(String name, int[] a) {
    switch (name) {
      case "light": return light[phaseNumber(a[0])];
      case "was": return was(a[0], a[1]);
      case "stageOf": return stageOf(a[0]);
      case "place": return place(a[0], a[1]);
      case "told": return toldOf(phaseNumber(a[0]), a[1]);
      case "length": return rows(a[0]) == null ? NONE : rows(a[0]).size();
      case "bound": return bound();
      case "count": return count(a[0]);
      case "finding": return pick(a[0], foundKind, foundPhase);
      case "fault": return pick(a[0], faultKind, faultSecond, faults, faultStays);
      case "trace": return trace;
      default: throw new IllegalArgumentException(name);
    }
  }

  private static void refuse(boolean when, int answer) {
    if (when) throw new Refused(answer);
  }

  private static int pick(int what, int... answers) {
    refuse(what < 0 || what >= answers.length, BAD);
    return answers[what];
  }

  private int phaseNumber(int p) {
    refuse(p < 0 || p >= kinds.size(), BAD);
    return p;
  }

  private List<int[]> rows(int d) {
    refuse(d < 0 || d >= detectors.size(), BAD);
    return detectors.get(d);
  }

  private static void inRange(int x, int from, int to) {
    refuse(x < from || x > to, BAD);
  }

  private int phase(int kind) {
    inRange(kind, 0, 4);
    refuse(now > 0, STATE);
    refuse(kinds.size() == 8, FULL);
    table[kinds.size()] = new int[] {5, 20, 3};
    kinds.add(kind);
    return kinds.size() - 1;
  }

  private int conflict(int p, int q, int there, int back) {
    phaseNumber(p);
    phaseNumber(q);
    refuse(p == q, BAD);
    inRange(there, 0, 20);
    inRange(back, 0, 20);
    refuse(now > 0, STATE);
    for (int[] s : stages) refuse(has(s, p) && has(s, q), MEET);
    clearing.put(p * 8 + q, there);
    clearing.put(q * 8 + p, back);
    return 1;
  }

  private static boolean has(int[] stage, int p) {
    return Arrays.stream(stage).anyMatch(x -> x == p);
  }

  private static int[] of(int[] stage) {
    return Arrays.stream(stage).filter(x -> x != NONE).toArray();
  }

  private int stage(int[] a) {
    int[] those = of(a);
    for (int p : those) phaseNumber(p);
    refuse(those.length == 0 || Arrays.stream(those).distinct().count() < those.length, BAD);
    refuse(now > 0, STATE);
    for (int p : those) for (int q : those) refuse(clearing.containsKey(p * 8 + q), MEET);
    refuse(stages.size() == 6, FULL);
    stages.add(a.clone());
    return stages.size() - 1;
  }

  private int detector(int p) {
    phaseNumber(p);
    refuse(detectors.size() == 12, FULL);
    detectorOf[p] = detectors.size();
    detectors.add(new ArrayList<>());
    return detectorOf[p];
  }

  private int cut(int d) {
    refuse(rows(d) == null, STATE);
    return detectors.set(d, null).size();
  }

  private int passing(int d, int passings, int occupied) {
    List<int[]> rows = rows(d);
    inRange(passings, -128, 127);
    inRange(occupied, 0, 10000);
    refuse(rows == null, STATE);
    refuse(rows.size() == 200, FULL);
    rows.add(new int[] {passings, occupied});
    return rows.size();
  }

  private int order(int[] a) {
    phaseNumber(a[0]);
    inRange(a[1], 1, 60);
    inRange(a[2], a[1], 120);
    inRange(a[3], 0, 9);
    refuse(a[4] < now, BAD);
    refuse(orders.size() == 16, FULL);
    orders.add(a.clone());
    return orders.size();
  }

  private int lamp(int p, boolean isOut) {
    int was = out[phaseNumber(p)] ? 1 : 0;
    out[p] = isOut;
    return was;
  }

  private int pair(int d, int e, int span) {
    rows(d);
    rows(e);
    refuse(d == e, BAD);
    inRange(span, 1, 60);
    refuse(pairs.size() == 6, FULL);
    pairs.add(new int[] {d, e, span, 0});
    return pairs.size() - 1;
  }

  private int ask(int p) {
    phaseNumber(p);
    if (asked[p] != NONE || light[p] == 1) return 0;
    asked[p] = now;
    return 1;
  }

  private int hurry(int s) {
    refuse(s < 0 || s >= stages.size(), BAD);
    refuse(faultStays != 0, STATE);
    if (s == green) return 0;
    hurried = s;
    return 1;
  }

  private int alarm() {
    refuse(faultStays != 0, STATE);
    alarm = true;
    return 1;
  }

  private int restore() {
    refuse(faultStays == 0, STATE);
    faultStays = 0;
    for (int p = 0; p < kinds.size(); p++) change(p, 0, now);
    return 1;
  }

  private int second(int n) {
    inRange(n, 0, 4);
    for (int i = 1; i <= n; i++) {
      int before = faults;
      pass(now);
      past.addFirst(light.clone());
      now++;
      if (faults != before) return i;
    }
    return n;
  }

  private void pass(int t) {
    for (int[] o : orders) {
      if (o[4] == t) table[o[0]] = new int[] {o[1], o[2], o[3]};
    }
    orders.removeIf(o -> o[4] == t);
    if (faultStays == 1 && t == faultSecond + 3) {
      for (int p = 0; p < kinds.size(); p++) change(p, 3, t);
      faultStays = 2;
    }
    if (faultStays != 0) return;
    for (int p = 0; p < kinds.size(); p++) read(p, t);
    int fault = lookForFault(t);
    if (fault != 0) {
      meet(fault, t);
      return;
    }
    if (green != NONE && othersWanted() && mustEnd(t)) {
      for (int p : of(stages.get(green))) end(p, t, table[p][2]);
      green = NONE;
    }
    for (int p = 0; p < kinds.size(); p++) {
      if (light[p] == 2 && ends[p] <= t) change(p, 0, t);
    }
    if (green == NONE) begin(next(), t);
  }

  private void read(int p, int t) {
    boolean isGreen = light[p] == 1;
    int kind = kinds.get(p);
    if (!isGreen && (kind == 4 || asked[p] != NONE)) return;
    boolean yes;
    try {
      yes = isGreen ? bodyOfHolds(p, kind, t) : bodyOfAsks(kind, at(p, t));
    } catch (Found f) {
      tell(f.kind, p);
      yes = true;
    }
    if (isGreen) holds[p] = yes;
    else if (yes) asked[p] = t;
  }

  private int[] at(int p, int t) throws Found {
    if (detectorOf[p] == NONE || detectors.get(detectorOf[p]) == null) throw new Found(1);
    List<int[]> rows = detectors.get(detectorOf[p]);
    if (t >= rows.size()) throw new Found(2);
    return rows.get(t);
  }

  private boolean bodyOfAsks(int kind, int[] seen) {
    boolean byCar = seen[0] > 0 || seen[1] >= 5000;
    if (kind == 0) {
      trace += 1;
      return byCar;
    }
    if (kind == 1) {
      trace += seen[1] >= 2000 ? 10 : 11;
      return seen[1] >= 2000 || byCar;
    }
    trace += kind == 2 ? 100 : 1000;
    return kind == 2 ? seen[0] > 0 : seen[0] != 0;
  }

  private boolean bodyOfHolds(int p, int kind, int t) throws Found {
    int seen = kind == 4 ? 0 : at(p, t)[0];
    trace += new int[] {5, 5, 50, 500, 5000}[kind];
    return kind == 4 || kind == 3 && seen != 0 || kind < 2 && seen > 0;
  }

  private void tell(int kind, int p) {
    found[kind]++;
    foundKind = kind;
    foundPhase = p;
  }

  private int lookForFault(int t) {
    boolean lamp = false;
    boolean pair = false;
    for (int p = 0; p < kinds.size(); p++) lamp |= out[p] && (light[p] == 1 || light[p] == 2);
    for (int[] two : pairs) {
      List<int[]> one = detectors.get(two[0]);
      List<int[]> other = detectors.get(two[1]);
      boolean seen = one != null && other != null && t < Math.min(one.size(), other.size());
      two[3] = seen && one.get(t)[0] > 0 ^ other.get(t)[0] > 0 ? two[3] + 1 : 0;
      pair |= two[3] >= two[2];
    }
    return lamp ? 1 : pair ? 2 : alarm ? 3 : 0;
  }

  private void meet(int kind, int t) {
    for (int p = 0; p < kinds.size(); p++) {
      if (light[p] == 1 || light[p] == 2) end(p, t, 0);
    }
    for (int[] two : pairs) two[3] = 0;
    green = NONE;
    hurried = NONE;
    alarm = false;
    faultKind = kind;
    faultSecond = t;
    faults++;
    faultStays = 1;
  }

  private void end(int p, int t, int amber) {
    change(p, amber == 0 ? 0 : 2, t);
    ends[p] = t + amber;
    for (int q = 0; q < kinds.size(); q++) {
      Integer way = clearing.get(p * 8 + q);
      if (way != null && ends[p] + way > free[q]) free[q] = ends[p] + way;
    }
  }

  private void change(int p, int to, int t) {
    changed[p]++;
    if (light[p] == 1) {
      try {
        gap[p] = kinds.get(p) == 4 ? 0 : gapOf(p, t);
      } catch (Found f) {
        tell(f.kind, p);
        gap[p] = 0;
      }
    }
    if (to == 1) greens[p]++;
    light[p] = to;
  }

  private int gapOf(int p, int t) throws Found {
    at(p, t - 1);
    int sum = 0;
    for (int i = since; i < t; i++) sum += at(p, i)[0];
    if (sum == 0) throw new Found(3);
    return (t - since) / sum;
  }

  private boolean mustEnd(int t) {
    boolean held = false;
    for (int p : of(stages.get(green))) held |= holds[p];
    int lasts = t - since;
    return lasts >= least && (lasts >= greatest || hurried != NONE || !held);
  }

  private int firstAsked(int s) {
    return Arrays.stream(of(stages.get(s))).map(p -> asked[p]).filter(x -> x != NONE).min()
        .orElse(NONE);
  }

  private boolean othersWanted() {
    for (int s = 0; s < stages.size(); s++) {
      if (s != green && (s == hurried || firstAsked(s) != NONE)) return true;
    }
    return false;
  }

  private int next() {
    if (hurried != NONE) return hurried;
    int earliest = Integer.MAX_VALUE;
    for (int s = 0; s < stages.size(); s++) {
      if (s != green && firstAsked(s) != NONE) earliest = Math.min(earliest, firstAsked(s));
    }
    List<Integer> round = new ArrayList<>();
    int from = latest == NONE ? stages.size() - 1 : latest;
    for (int s = from + 1; s < stages.size(); s++) round.add(s);
    for (int s = 0; s <= from; s++) round.add(s);
    for (int s : round) {
      if (s != green && firstAsked(s) == earliest) return s;
    }
    return NONE;
  }

  private void begin(int s, int t) {
    if (s == NONE) return;
    int[] those = of(stages.get(s));
    for (int p : those) {
      if (light[p] != 0 || free[p] > t) return;
    }
    green = s;
    latest = s;
    since = t;
    least = leastOf(s);
    greatest = greatestOf(s);
    if (hurried == s) hurried = NONE;
    for (int p : those) {
      change(p, 1, t);
      asked[p] = NONE;
    }
  }

  private int leastOf(int s) {
    return Arrays.stream(of(stages.get(s))).map(p -> table[p][0]).max().getAsInt();
  }

  private int greatestOf(int s) {
    int smallest = Arrays.stream(of(stages.get(s))).map(p -> table[p][1]).min().getAsInt();
    return Math.max(smallest, leastOf(s));
  }

  private int was(int p, int n) {
    phaseNumber(p);
    inRange(n, 0, 60);
    return n >= past.size() ? NONE : past.stream().skip(n).findFirst().get()[p];
  }

  private int stageOf(int what) {
    return pick(what, green, what == 1 ? next() : 0, hurried, green == NONE ? NONE : now - since);
  }

  private int place(int s, int k) {
    refuse(s < 0 || s >= stages.size() || k < 0 || k > 3, BAD);
    if (stages.get(s)[k] == NONE) tell(4, NONE);
    return stages.get(s)[k];
  }

  private int toldOf(int p, int what) {
    return pick(what, kinds.get(p), detectorOf[p], changed[p], changed[p], gap[p], greens[p],
        ends[p], free[p], asked[p], table[p][0], table[p][1], table[p][2]);
  }

  private int bound() {
    int amber = 0;
    for (int p = 0; p < kinds.size(); p++) amber = Math.max(amber, table[p][2]);
    int way = clearing.values().stream().mapToInt(x -> x).max().orElse(0);
    int all = 0;
    for (int s = 0; s < stages.size(); s++) all += greatestOf(s) + amber + way;
    return all;
  }

  private int count(int what) {
    return pick(what, now, found[1], found[2], found[3], found[4], faults, kinds.size(),
        stages.size(), detectors.size(), orders.size(), pairs.size(),
        Arrays.stream(changed).sum());
  }
}
