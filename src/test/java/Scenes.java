/** Contests to begin with. */
final class Scenes {
  static final Scene NEW = Scene.of("");

  /** Four lands without songs. */
  static final Scene LANDS =
      Scene.of("land 0 300; land 0 200; land 1 100; land 2 0; rules 180 6 10 0 false");

  /** The songs 0, 1 of the half 0 and 2 of the half 1, with the props 5, 4, 3. Land 3 has none. */
  static final Scene ENTRIES = LANDS.then("enter 0 100 1 5; enter 1 101 2 4; enter 2 103 3 3");

  /** Land 0 (2 1) twice, land 3 (0 1 2) twice; some calls. The other juries are void. */
  static final Scene VOTES = ENTRIES.then("start; jury 0 0 1; jury 0 1 1; jury 3 0 0; jury 3 1 0;"
      + "call 3 0 0 2; call 0 0 1 3; call 2 5 0 1");

  static final Scene READING = VOTES.then("close; read 0");

  static final Scene ALL_LANDS_READ = READING.then("read 1; read 2; read 3");

  static final Scene ALL_READ = ALL_LANDS_READ.then("readCalls; readCalls; readCalls");

  static final Scene ENDED = ALL_READ.then("end");

  static final Scene SECOND_YEAR = ENDED.then("next");

  /** One contest in each phase. */
  static final Scene[] PHASES = {ENTRIES, VOTES, READING, ENDED};

  private Scenes() {}

  /** So many lands, with 999 beds, of the pot 0. */
  static Scene lands(int count) {
    return Scene.of("land 0 999; ".repeat(count));
  }

  /** All lands have songs of the half 0, of 100 or 101 seconds, without props. */
  static Scene songs(Scene scene, int... lands) {
    Scene all = scene;
    for (int land : lands) {
      all = all.then("enter " + land + " " + (100 + land % 2) + " 1 0");
    }
    return all;
  }

  /** So many lands, all of the pot 0, all with songs, no threshold, in the phase 1. */
  static Scene voting(int count) {
    int[] all = new int[count];
    for (int land = 0; land < count; land++) {
      all[land] = land;
    }
    return songs(lands(count).then("rules 180 6 10 0 false"), all).then("start");
  }

  /** Jurors 0 and on of a land give the same ballot. */
  static String jurors(int land, int count, int n) {
    StringBuilder calls = new StringBuilder();
    for (int juror = 0; juror < count; juror++) {
      calls.append("jury ").append(land).append(' ').append(juror).append(' ').append(n).append("; ");
    }
    return calls.toString();
  }

  /** Callers from first on call as often for the same song. */
  static String callers(int land, int first, int count, int song, int many) {
    StringBuilder calls = new StringBuilder();
    for (int caller = first; caller < first + count; caller++) {
      calls.append("call ").append(land).append(' ').append(caller).append(' ').append(song)
          .append(' ').append(many).append("; ");
    }
    return calls.toString();
  }

  /** All lands, from 0, are read. */
  static String reads(int lands) {
    StringBuilder calls = new StringBuilder();
    for (int land = 0; land < lands; land++) {
      calls.append("read ").append(land).append("; ");
    }
    return calls.toString();
  }

  /** Two lands, each with a song: so many years, up to the end of the last one. */
  static Scene yearsOfTwo(int years) {
    String year = "enter 0 100 1 0; enter 1 100 1 0; start; close; read 0; read 1; readCalls; readCalls;"
        + "end; ";
    return lands(2).then((year + "next; ").repeat(years - 1) + year);
  }
}
