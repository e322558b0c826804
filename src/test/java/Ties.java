/** Contests in which two songs are ranked by one rule alone, against all rules behind it. */
final class Ties {
  private static final String NO_THRESHOLD = "rules 180 6 20 0 false";

  /**
   * By the juries of land 1 (2 3 0 4), by the calls of land 0 (2 3 4 1): 8 of 0, 7 of 1, which has
   * more by calls, of more lands, and is ahead.
   */
  static final Scene BY_TOTAL = Scenes.songs(
      Scene.of("land 1 0; land 0 0; land 1 0; land 1 0; land 1 0; " + NO_THRESHOLD), 1, 0, 2, 3, 4)
      .then("start; jury 1 0 8; jury 1 1 8; call 0 0 2 4; call 0 0 3 3; call 0 0 4 2; call 0 0 1 1");

  /** 12 and 10 of 0, 10 by the jury and 12 by calls of 1. Land 4 gave nothing. */
  static final Scene BY_CALL_POINTS = Scenes.songs(
      Scene.of("land 3 0; land 3 0; land 0 0; land 1 0; land 2 0; " + NO_THRESHOLD), 0, 1)
      .then("start; jury 2 0 0; jury 2 1 0; call 3 0 1 2; call 3 0 0 1");

  /**
   * 0 has 12 + 6 by calls of two lands and 7 by the jury of land 4 (1 2 7 0 3 5 6), 7 has 4 + 4 + 4 + 5
   * by calls of four lands and 8 by the jury; 7 is ahead.
   */
  static final Scene BY_ONE_CALL_POINT = Scenes.songs(Scene.of("land 1 0; ".repeat(4) + "land 0 0; "
      + "land 1 0; ".repeat(3) + NO_THRESHOLD), 7, 0, 1, 2, 3, 4, 5, 6)
      .then("start; jury 4 0 936; jury 4 1 936; " + once(1, 0, 2, 3, 4, 5, 6, 7)
          + once(2, 1, 3, 4, 5) + once(2, 1, 3, 4, 5, 0, 6, 7) + once(0, 1, 2, 3, 4, 5, 6, 7)
          + once(3, 1, 2, 4, 5, 6, 7));

  /** 8 + 8 + 8 of 0, 12 + 12 of 1, which is ahead. The others have 22. Land 3 gave nothing. */
  static final Scene BY_LANDS = Scenes.songs(Scene.of("land 0 0; ".repeat(8) + NO_THRESHOLD),
      1, 0, 2, 3, 4).then("start; " + third(1, 2, 3, 0) + third(5, 3, 4, 0) + third(6, 4, 2, 0)
          + "call 0 0 1 1; call 7 0 1 1");

  /** 10 of six lands of 0, 12 of five lands of 1, which is ahead. */
  static final Scene BY_ONE_LAND = Scenes.songs(Scene.of("land 0 0; ".repeat(8) + NO_THRESHOLD), 1, 0, 2)
      .then("start; " + once(1, 2, 2, 0) + once(3, 1, 1, 0) + once(4, 1, 1, 0) + once(5, 1, 1, 0)
          + once(6, 1, 1, 0) + once(7, 1, 1, 0));

  /** 12 + 8 of 3, 10 + 10 of 0, which is three places ahead. Land 6 gave nothing. */
  static final Scene BY_TWELVES = Scenes.songs(Scene.of("land 0 0; ".repeat(7) + NO_THRESHOLD),
      0, 1, 2, 3).then("start; call 4 0 3 2; call 4 0 0 1; " + third(5, 1, 0, 3));

  /** Nobody has points, and 2 is ahead. */
  static final Scene BY_ORDER = Scenes.songs(Scenes.lands(4).then(NO_THRESHOLD), 2, 1, 0).then("start");

  private Ties() {}

  /** One call for each of these songs. */
  private static String once(int land, int... songs) {
    StringBuilder calls = new StringBuilder();
    for (int song : songs) {
      calls.append("call ").append(land).append(" 0 ").append(song).append(" 1; ");
    }
    return calls.toString();
  }

  /** 12, 10 and 8 by calls. */
  private static String third(int land, int first, int second, int third) {
    return once(land, first, second, third) + once(land, first, second) + once(land, first);
  }
}
