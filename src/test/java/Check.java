/** Counts what is as due and what is not, and prints the latter. */
final class Check {
  interface Call {
    Object answer();
  }

  private final String test;
  private int right = 0;
  private int wrong = 0;

  Check(String test) {
    this.test = test;
  }

  /** What a call answers, or the name of the exception that it throws, behind "throws.". */
  static String answerOf(Call call) {
    try {
      return String.valueOf(call.answer());
    } catch (RuntimeException e) {
      return "throws." + e.getClass().getSimpleName();
    }
  }

  void due(String what, Object want, Call call) {
    String got = answerOf(call);
    if (got.equals(String.valueOf(want))) {
      right++;
    } else {
      wrong++;
      System.out.println(test + ": " + what + " answered " + got + ", due is " + want);
    }
  }

  void outOfBounds(String what, Call call) {
    due(what, "throws.IndexOutOfBoundsException", call);
  }

  void badArgument(String what, Call call) {
    due(what, "throws.IllegalArgumentException", call);
  }

  void badState(String what, Call call) {
    due(what, "throws.IllegalStateException", call);
  }

  void finish() {
    System.out.println(test + ": " + right + " answers are as due, " + wrong + " are not");
    if (wrong > 0) {
      System.exit(1);
    }
  }
}
