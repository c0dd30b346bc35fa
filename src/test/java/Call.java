import java.util.ArrayList;
import java.util.List;

/** One call of the face as data, so that a run is told once and can be made on several objects. */
final class Call {
  final String name;
  final int[] a;

  Call(String name, int... a) {
    this.name = name;
    this.a = a;
  }

  /**
   * Calls as text: "phase 0; stage 0 - - -; second 4 x3". A dash is NONE, min and max are the ends
   * of int, and xN makes the call N times.
   */
  static List<Call> parse(String text) {
    List<Call> calls = new ArrayList<>();
    for (String part : text.split(";")) {
      if (part.isBlank()) continue;
      String[] words = part.trim().split(" +");
      int times = 1;
      int end = words.length;
      if (words[end - 1].startsWith("x")) times = Integer.parseInt(words[--end].substring(1));
      int[] a = new int[end - 1];
      for (int i = 1; i < end; i++) a[i - 1] = number(words[i]);
      Call call = new Call(words[0], a);
      for (int i = 0; i < times; i++) calls.add(call);
    }
    return calls;
  }

  private static int number(String word) {
    switch (word) {
      case "-": return CrossingKeeper.NONE;
      case "min": return Integer.MIN_VALUE;
      case "max": return Integer.MAX_VALUE;
      default: return Integer.parseInt(word);
    }
  }

  int on(CrossingKeeper x) {
    switch (name) {
      case "phase": return x.phase(a[0]);
      case "conflict": return x.conflict(a[0], a[1], a[2], a[3]);
      case "stage": return x.stage(a[0], a[1], a[2], a[3]);
      case "detector": return x.detector(a[0]);
      case "cut": return x.cut(a[0]);
      case "passing": return x.passing(a[0], a[1], a[2]);
      case "table": return x.table(a[0], a[1], a[2], a[3], a[4]);
      case "lamp": return x.lamp(a[0], a[1] == 1);
      case "pair": return x.pair(a[0], a[1], a[2]);
      case "ask": return x.ask(a[0]);
      case "hurry": return x.hurry(a[0]);
      case "second": return x.second(a[0]);
      case "alarm": return x.alarm();
      case "restore": return x.restore();
      default: return told(x);
    }
  }

  private int told(CrossingKeeper x) {
    switch (name) {
      case "light": return x.light(a[0]);
      case "was": return x.was(a[0], a[1]);
      case "stageOf": return x.stageOf(a[0]);
      case "place": return x.place(a[0], a[1]);
      case "told": return x.told(a[0], a[1]);
      case "length": return x.length(a[0]);
      case "bound": return x.bound();
      case "count": return x.count(a[0]);
      case "finding": return x.finding(a[0]);
      case "fault": return x.fault(a[0]);
      case "trace": return x.trace();
      default: throw new IllegalArgumentException(name);
    }
  }

  @Override
  public String toString() {
    StringBuilder text = new StringBuilder(name).append('(');
    for (int i = 0; i < a.length; i++) text.append(i == 0 ? "" : ", ").append(a[i]);
    return text.append(')').toString();
  }
}
