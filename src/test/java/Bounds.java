import java.util.ArrayList;
import java.util.List;

/** What the tests of boundary cases share: rows of calls with answers, and calls that are refused. */
final class Bounds {
  static final String INDEX = "INDEX";
  static final String ARGUMENT = "ARGUMENT";
  static final String STATE = "STATE";

  /** An object may be used for so many calls. */
  private static final int CALLS = 512;

  /** The rest of this year and the start of the next: what a refused call left behind shows in it. */
  private static final Scene REST = Scene.of(
      "enter 2 300 1 1; enter 2 60 9 1; enter 0 60 1 3; enter 1 61 1 4; enter 2 60 1 9; enter 3 61 1 0;"
      + "move 0 0; start; jury 0 0 0; jury 0 1 0; jury 0 2 0; jury 1 0 0; jury 1 1 0; jury 1 2 0;"
      + "jury 2 3 1; jury 2 4 0; call 0 0 1 99; call 0 1 1 99; call 0 2 1 99; call 1 0 0 99;"
      + "call 2 0 0 1; call 2 1 1 9; call 3 0 1 2; close; fail 0; read 0; read 1; read 2; read 3;"
      + "correct 0; disqualify 2; correct 1; read 4; read 5; read 6; read 7;"
      + "readCalls; readCalls; readCalls; readCalls; readCalls; readCalls; readCalls; readCalls; end;"
      + "next; rules 200 6 20 0 false");

  private final Check check;

  Bounds(String test) {
    check = new Check(test);
  }

  void finish() {
    check.finish();
  }

  void due(String what, Object want, Check.Call call) {
    check.due(what, want, call);
  }

  /**
   * Lines "call = answer", one behind the other: on a contest of which nothing else is asked, and on
   * one of which all is asked ahead of each line. What is refused changes nothing.
   */
  void row(Scene scene, String... lines) {
    Songnations silent = scene.made();
    Songnations asked = scene.made();
    for (String line : lines) {
      int sign = line.lastIndexOf(" = ");
      String call = line.substring(0, sign);
      String want = nameOf(line.substring(sign + 3));
      check.due(call + " behind " + scene, want, () -> Scene.tell(silent, call));
      long before = asked.digest();
      check.due(call + " behind digest(), " + scene, want, () -> Scene.tell(asked, call));
      if (want.startsWith("throws.")) {
        check.due("digest() behind " + call + ", " + scene, before, () -> asked.digest());
      }
    }
    check.due("digest() in the end, " + scene, asked.digest(), () -> silent.digest());
    checkLength(scene, 3 * lines.length);
  }

  /** A call that is refused: all that can be asked, and all that comes then, is as without it. */
  void refused(Scene scene, String call, String exception) {
    unchanged(scene, call, nameOf(exception));
  }

  /** A call that is answered, but changes nothing. */
  void unchanged(Scene scene, String call, Object answer) {
    Songnations with = scene.made();
    check.due(call + " behind " + scene, answer, () -> Scene.tell(with, call));
    samePicture(scene, call, with);
    Songnations again = scene.made();
    Check.answerOf(() -> Scene.tell(again, call));
    check.due("the rest behind " + call + ", " + scene, rest(scene, scene.made()),
        () -> rest(scene, again));
  }

  private void samePicture(Scene scene, String call, Songnations with) {
    List<String> want = picture(scene.made());
    List<String> got = picture(with);
    checkLength(scene, got.size() + 2);
    for (int i = 0; i < Math.max(want.size(), got.size()); i++) {
      String due = i < want.size() ? want.get(i) : "no more";
      String its = i < got.size() ? got.get(i) : "no more";
      check.due("unchanged by " + call + " behind " + scene, due, () -> its);
    }
  }

  /** low and high are taken, with these answers; what is outside, near and far, is refused. */
  void range(Scene scene, String call, int low, int high, String exception, int... answers) {
    row(scene, with(call, low) + " = " + answers[0]);
    row(scene, with(call, high) + " = " + answers[1]);
    outside(scene, call, low, high, exception);
  }

  void outside(Scene scene, String call, int low, int high, String exception) {
    int[] wrong = {low - 1, high + 1, Integer.MIN_VALUE, Integer.MAX_VALUE};
    for (int number : wrong) {
      refused(scene, with(call, number), exception);
    }
  }

  private static String with(String call, int number) {
    return call.replace("#", Integer.toString(number));
  }

  /** All that can be asked, a line each. */
  static List<String> picture(Songnations x) {
    List<String> lines = new ArrayList<>();
    int lands = x.many(2);
    int songs = x.many(3);
    each(x, lines, 12, "many #");
    List<Integer> order = new ArrayList<>();
    for (int place = 0; place < songs; place++) {
      order.add(x.at(place));
    }
    lines.add("order " + order);
    each(x, lines, songs - x.many(4), "ranked #");
    for (int land = 0; land < lands; land++) {
      each(x, lines, 11, "ofLand " + land + " #");
      ask(x, lines, "without " + land);
      for (int song : order) {
        ask(x, lines, "gives " + land + " " + song + " true");
        ask(x, lines, "gives " + land + " " + song + " false");
        ask(x, lines, "needCalls " + land + " " + song);
      }
    }
    for (int song : order) {
      each(x, lines, 10, "ofSong " + song + " #");
    }
    for (String call : new String[] {"meanTotal", "isOpen", "nextRead", "bestMove", "digest"}) {
      ask(x, lines, call);
    }
    return lines;
  }

  private static void each(Songnations x, List<String> lines, int end, String call) {
    for (int i = 0; i < end; i++) {
      ask(x, lines, with(call, i));
    }
  }

  private static void ask(Songnations x, List<String> lines, String call) {
    lines.add(call + " = " + Check.answerOf(() -> Scene.tell(x, call)));
  }

  private String rest(Scene scene, Songnations x) {
    StringBuilder lines = new StringBuilder();
    for (String call : REST.calls()) {
      lines.append(call).append(" = ").append(Check.answerOf(() -> Scene.tell(x, call)));
      lines.append(" then ").append(x.digest()).append("; ");
    }
    checkLength(scene, 2 * REST.size() + 1);
    return lines.toString();
  }

  /** What an object answers behind so many calls is free: no test may ask for more. */
  static void checkLength(Scene scene, int more) {
    if (scene.size() + more + 12 > CALLS) {
      throw new AssertionError("more than " + CALLS + " calls: " + scene);
    }
  }

  private static String nameOf(String answer) {
    switch (answer) {
      case INDEX:
        return "throws.IndexOutOfBoundsException";
      case ARGUMENT:
        return "throws.IllegalArgumentException";
      case STATE:
        return "throws.IllegalStateException";
      default:
        return answer;
    }
  }
}
