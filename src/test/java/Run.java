import java.util.ArrayList;
import java.util.List;

/** A run of calls on a new object, never longer than the document lets an object live. */
final class Run {
  private static final int CALLS = 512;
  private static final int BEHIND = 61;

  private final Sentences due;
  private final List<Call> calls = new ArrayList<>();
  private final CrossingKeeper keeper = new CrossingKeeper();

  Run(Sentences due, String text) {
    this.due = due;
    make(text);
  }

  /** Calls whose answers are not looked at here. */
  Run make(String text) {
    for (Call call : Call.parse(text)) make(call);
    return this;
  }

  private int make(Call call) {
    calls.add(call);
    if (calls.size() > CALLS) throw new IllegalStateException("more than 512 calls");
    return call.on(keeper);
  }

  /** Each of the calls answers this. */
  Run is(String text, int want) {
    for (Call call : Call.parse(text)) due.is(tell(call), make(call), want);
    return this;
  }

  /** Each of the calls answers this, and nothing that is told or happens later is another for it. */
  Run keeps(String text, int want) {
    for (Call call : Call.parse(text)) {
      for (String future : futures()) compare(call, want, Call.parse(future));
      due.is(tell(call), make(call), want);
    }
    return this;
  }

  private String tell(Call call) {
    return call + " as call " + (calls.size() + 1);
  }

  /** The same run with the call and without it: all answers behind it must be the same. */
  private void compare(Call call, int want, List<Call> future) {
    List<Call> all = new ArrayList<>(future);
    all.addAll(questions());
    int room = CALLS - calls.size() - 3;
    if (room <= future.size()) throw new IllegalStateException("no room to look behind " + call);
    int from = future.size();
    do {
      int to = Math.min(all.size(), from + room - future.size());
      List<Call> asked = new ArrayList<>(future);
      asked.addAll(all.subList(from, to));
      compareAnswers(call, want, asked);
      from = to;
    } while (from < all.size());
  }

  private void compareAnswers(Call call, int want, List<Call> asked) {
    CrossingKeeper with = new CrossingKeeper();
    CrossingKeeper without = new CrossingKeeper();
    for (Call before : calls) {
      before.on(with);
      before.on(without);
    }
    for (int i = 0; i < 3; i++) due.is(() -> tell(call) + " made again", call.on(with), want);
    for (Call question : asked) {
      due.is(() -> tell(call) + " changes " + question, question.on(with), question.on(without));
    }
  }

  /** All that an object tells, also of numbers that are just not there. */
  private static List<Call> questions() {
    List<Call> all = new ArrayList<>();
    for (int what = 0; what <= 11; what++) all.add(new Call("count", what));
    for (int what = 0; what <= 1; what++) all.add(new Call("finding", what));
    for (int what = 0; what <= 3; what++) all.add(new Call("fault", what));
    for (int what = 0; what <= 3; what++) all.add(new Call("stageOf", what));
    all.add(new Call("bound"));
    all.add(new Call("trace"));
    for (int d = 0; d <= 12; d++) all.add(new Call("length", d));
    for (int p = 0; p <= 8; p++) {
      all.add(new Call("light", p));
      for (int what = 0; what <= 11; what++) all.add(new Call("told", p, what));
    }
    for (int p = 0; p < 8; p++) {
      for (int n = 0; n < BEHIND; n++) all.add(new Call("was", p, n));
    }
    for (int s = 0; s <= 6; s++) {
      for (int k = 0; k < 4; k++) all.add(new Call("place", s, k));
    }
    return all;
  }

  /** What may come behind a call; each brings to light what another one does not. */
  private static String[] futures() {
    return new String[] {
      "",
      "second 1 x9; second 4",
      each("lamp", 8, "0") + "second 1 x3;" + each("ask", 8, "") + "second 1 x7",
      "hurry 0; second 4; hurry 1; second 4; second 4; lamp 0 1; lamp 1 1; second 4; second 4",
      "restore; second 4; alarm; second 4; second 2; second 1; restore; second 4",
      each("passing", 12, "1 5000") + each("pair", 1, "1 1") + "second 1 x3",
      "phase 0; conflict 0 1 7 9; stage 0 - - -; stage 0 1 - -; detector 0; table 0 1 1 1 9;"
          + each("cut", 12, "") + "second 4; second 4; second 4"
    };
  }

  private static String each(String name, int numbers, String rest) {
    StringBuilder text = new StringBuilder();
    for (int i = 0; i < numbers; i++) text.append(name + " " + i + " " + rest + ";");
    return text.toString();
  }
}
