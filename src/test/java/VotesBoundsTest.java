/** The boundary cases of the promises 8 to 11: the votes. */
public final class VotesBoundsTest {
  private static final Bounds BOUNDS = new Bounds("VotesBoundsTest");
  private static final String INDEX = Bounds.INDEX;
  private static final String ARGUMENT = Bounds.ARGUMENT;
  private static final String STATE = Bounds.STATE;

  private VotesBoundsTest() {}

  public static void main(String[] args) {
    promise8Numbers();
    promise8Orders();
    promise8NoCandidates();
    promise8Disqualified();
    promise8Phases();
    promise8Full();
    promise9Numbers();
    promise9Songs();
    promise9Phases();
    promise9Limit();
    promise9Full();
    promise10Numbers();
    promise10Left();
    promise10Phases();
    promise10Board();
    promise11();
    promise11Void();
    BOUNDS.finish();
  }

  private static void refused(Scene scene, String call, String exception) {
    BOUNDS.refused(scene, call, exception);
  }

  private static void refusedIn(String call, String exception, int... phases) {
    for (int phase : phases) {
      refused(Scenes.PHASES[phase], call, exception);
    }
  }

  // ---- promise 8: jury

  private static void promise8Numbers() {
    BOUNDS.range(Scenes.VOTES, "jury # 0 0", 0, 3, INDEX, 1, 0);
    BOUNDS.range(Scenes.voting(8), "jury # 0 0", 0, 7, INDEX, 1, 0);
    BOUNDS.range(Scenes.VOTES, "jury 3 # 0", 0, 4, INDEX, 0, 0);
    BOUNDS.range(Scenes.VOTES, "jury 0 2 #", 0, 1, ARGUMENT, 1, 2);
    BOUNDS.range(Scenes.VOTES, "jury 3 2 #", 0, 5, ARGUMENT, 0, 2);
    refused(Scenes.VOTES, "jury 4 0 -1", INDEX);
    refused(Scenes.VOTES, "jury 0 5 -1", INDEX);
    refused(Scenes.VOTES, "jury 3 -1 6", INDEX);
    refused(Scenes.VOTES, "jury -1 5 0", INDEX);
  }

  /** Of k CANDIDATES there are k times k - 1, and so on down to 1. */
  private static void promise8Orders() {
    int orders = 1;
    for (int k = 1; k <= 7; k++) {
      orders *= k;
      // The last land votes, for the songs ahead of it.
      Scene own = Scenes.voting(k + 1);
      BOUNDS.range(own, "jury " + k + " 0 #", 0, orders - 1, ARGUMENT, 0, k - 1);
      // The first land votes, for the songs behind it.
      BOUNDS.range(own, "jury 0 0 #", 0, orders - 1, ARGUMENT, 1, k);
    }
    int[] without = {0, 1, 2, 3, 4, 5, 6};
    Scene noSong = Scenes.songs(Scenes.lands(8), without).then("start");
    BOUNDS.range(noSong, "jury 7 0 #", 0, 5039, ARGUMENT, 0, 6);
    BOUNDS.range(noSong, "jury 6 0 #", 0, 719, ARGUMENT, 0, 5);
    // The next song is first from the order number 720 on.
    BOUNDS.row(noSong, "jury 7 0 719 = 0", "jury 7 0 720 = 1", "jury 7 0 4319 = 5",
        "jury 7 0 4320 = 6");
    eachOrderOfThree();
  }

  /** As in a dictionary: two ballots of the same order, so the places are those of the points. */
  private static void eachOrderOfThree() {
    String[] orders = {"0 1 2", "0 2 1", "1 0 2", "1 2 0", "2 0 1", "2 1 0"};
    for (int n = 0; n < 6; n++) {
      String[] row = orders[n].split(" ");
      BOUNDS.row(Scenes.voting(4).then(Scenes.jurors(3, 2, n)), "gives 3 " + row[0] + " true = 12",
          "gives 3 " + row[1] + " true = 10", "gives 3 " + row[2] + " true = 8");
    }
  }

  /** Of no CANDIDATES there is one order, 0; but without SONGS it is not the PHASE 1. */
  private static void promise8NoCandidates() {
    BOUNDS.outside(Scenes.LANDS, "jury 0 0 #", 0, 0, ARGUMENT);
    refused(Scenes.LANDS, "jury 0 0 0", STATE);
    Scene own = Scenes.LANDS.then("enter 0 100 1 0");
    BOUNDS.outside(own, "jury 0 0 #", 0, 0, ARGUMENT);
    refused(own, "jury 0 0 0", STATE);
    BOUNDS.outside(own, "jury 1 0 #", 0, 0, ARGUMENT);
    refused(own, "jury 1 0 0", STATE);
  }

  /** CANDIDATES are not DISQUALIFIED. */
  private static void promise8Disqualified() {
    Scene five = Scenes.voting(5).then("disqualify 1");
    BOUNDS.range(five, "jury 0 0 #", 0, 5, ARGUMENT, 2, 4);
    BOUNDS.range(five, "jury 1 0 #", 0, 23, ARGUMENT, 0, 4);
    Scene two = five.then("disqualify 4; disqualify 0");
    BOUNDS.range(two, "jury 2 0 #", 0, 0, ARGUMENT, 3, 3);
    BOUNDS.range(two, "jury 0 0 #", 0, 1, ARGUMENT, 2, 3);
  }

  private static void promise8Phases() {
    refusedIn("jury 0 2 0", STATE, 0, 2, 3);
    refusedIn("jury 3 0 5", STATE, 0, 2, 3);
    refusedIn("jury 0 2 2", ARGUMENT, 0, 1, 2, 3);
    refusedIn("jury 0 2 -1", ARGUMENT, 0, 1, 2, 3);
    refusedIn("jury 0 5 0", INDEX, 0, 1, 2, 3);
    refusedIn("jury 4 0 0", INDEX, 0, 1, 2, 3);
    refusedIn("jury 4 0 -1", INDEX, 0, 2, 3);
  }

  /** Another one of the same JUROR takes the place of the elder: 5 BALLOTS at most. */
  private static void promise8Full() {
    BOUNDS.row(Scenes.voting(4), "ofLand 3 3 = 0", "jury 3 0 0 = 0", "ofLand 3 3 = 1", "jury 3 0 5 = 2",
        "ofLand 3 3 = 1", "jury 3 4 5 = 2", "ofLand 3 3 = 2", "gives 3 2 true = 12");
    Scene full = Scenes.voting(4).then(Scenes.jurors(3, 5, 0));
    BOUNDS.row(full, "ofLand 3 3 = 5", "jury 3 5 0 = INDEX", "jury 3 4 5 = 2", "jury 3 0 5 = 2",
        "jury 3 2 5 = 2", "ofLand 3 3 = 5", "gives 3 2 true = 12", "gives 3 1 true = 10");
  }

  // ---- promise 9: call

  private static void promise9Numbers() {
    BOUNDS.range(Scenes.VOTES, "call # 9 1 1", 0, 3, INDEX, 1, 1);
    BOUNDS.range(Scenes.voting(8), "call # 9 1 1", 0, 7, INDEX, 1, 1);
    BOUNDS.range(Scenes.VOTES, "call 3 # 1 1", 0, 9, INDEX, 1, 1);
    BOUNDS.range(Scenes.VOTES, "call 3 1 1 #", 1, 99, ARGUMENT, 1, 10);
    refused(Scenes.VOTES, "call 4 10 3 0", INDEX);
    refused(Scenes.VOTES, "call 4 0 0 0", INDEX);
    refused(Scenes.VOTES, "call 3 10 0 0", INDEX);
    refused(Scenes.VOTES, "call 3 0 3 100", INDEX);
    refused(Scenes.VOTES, "call 0 -1 0 1", INDEX);
  }

  /** A SONG of this YEAR, not the own one, not one that is DISQUALIFIED. */
  private static void promise9Songs() {
    BOUNDS.range(Scenes.VOTES, "call 3 1 # 1", 0, 2, INDEX, 1, 1);
    BOUNDS.range(Scenes.voting(8), "call 3 1 # 1", 0, 7, INDEX, 1, 1);
    refused(Scenes.VOTES, "call 0 0 0 1", ARGUMENT);
    refused(Scenes.VOTES, "call 2 0 2 1", ARGUMENT);
    refused(Scenes.VOTES, "call 2 0 2 100", ARGUMENT);
    refused(Scenes.voting(8), "call 7 9 7 1", ARGUMENT);
    BOUNDS.row(Scenes.voting(8), "call 7 9 6 1 = 1", "call 0 0 7 1 = 1", "call 0 0 1 1 = 1");
    Scene out = Scenes.VOTES.then("disqualify 1");
    refused(out, "call 3 1 1 1", ARGUMENT);
    refused(out, "call 1 1 1 1", ARGUMENT);
    refused(out, "call 3 1 1 0", ARGUMENT);
    refused(out, "call 3 10 1 1", INDEX);
    BOUNDS.row(out, "call 1 1 0 1 = 1", "call 3 1 2 1 = 1");
    refused(out.then("close"), "call 3 1 1 1", ARGUMENT);
    // The songs of the year before are none.
    refused(Scenes.SECOND_YEAR, "call 3 1 1 1", INDEX);
    BOUNDS.row(Scenes.SECOND_YEAR.then("enter 0 100 1 0; enter 2 100 1 0; start"),
        "call 3 1 1 1 = INDEX", "call 3 1 2 1 = 1");
  }

  private static void promise9Phases() {
    refusedIn("call 3 1 0 1", STATE, 0, 2, 3);
    refusedIn("call 3 1 0 99", STATE, 0, 2, 3);
    refusedIn("call 0 1 0 1", ARGUMENT, 0, 1, 2, 3);
    refusedIn("call 3 1 0 0", ARGUMENT, 0, 1, 2, 3);
    refusedIn("call 3 1 0 100", ARGUMENT, 0, 1, 2, 3);
    refusedIn("call 3 10 0 1", INDEX, 0, 1, 2, 3);
    refusedIn("call 3 1 3 1", INDEX, 0, 1, 2, 3);
    refusedIn("call 4 1 0 1", INDEX, 0, 1, 2, 3);
    refusedIn("call 4 10 3 0", INDEX, 0, 2, 3);
  }

  /** As many COUNT as LIMIT, those that were told first, for DISQUALIFIED SONGS, too. */
  private static void promise9Limit() {
    Scene five = Scenes.songs(Scenes.lands(4).then("rules 180 6 5 0 false"), 0, 1, 2).then("start");
    BOUNDS.row(five, "call 3 0 0 4 = 4", "call 3 0 1 1 = 1", "call 3 0 1 1 = 0", "call 3 0 2 99 = 0",
        "ofLand 3 6 = 5", "gives 3 0 false = 12", "gives 3 1 false = 10", "gives 3 2 false = 0",
        "call 3 1 0 5 = 5", "call 3 2 1 6 = 5", "call 2 0 0 5 = 5", "call 2 0 0 1 = 0");
    // Of the second call as many as are left: 2 for the song 1, so that 0 has more.
    BOUNDS.row(five, "call 3 0 0 3 = 3", "call 3 0 1 5 = 2", "gives 3 0 false = 12",
        "gives 3 1 false = 10", "ofLand 3 6 = 5");
    BOUNDS.row(five, "call 3 0 1 3 = 3", "disqualify 1 = 2", "ofLand 3 6 = 0", "call 3 0 0 3 = 2",
        "call 3 0 2 1 = 0", "ofLand 3 6 = 2");
    Scene used = five.then("call 3 0 0 5");
    BOUNDS.unchanged(used, "call 3 0 0 1", 0);
    BOUNDS.unchanged(used, "call 3 0 1 1", 0);
    BOUNDS.unchanged(used, "call 3 0 2 99", 0);
    refused(used, "call 3 0 2 100", ARGUMENT);
    refused(used, "call 3 0 3 1", INDEX);
    refused(used.then("close"), "call 3 0 2 1", STATE);
    // In the next year all of them call anew.
    BOUNDS.row(Scenes.VOTES.then("call 3 0 1 8; close; " + Scenes.reads(4)
        + "readCalls; readCalls; readCalls; end; next; enter 0 100 1 0; enter 1 100 1 0; start"),
        "call 3 0 0 99 = 10", "call 3 0 1 1 = 0");
    promise9NextYear();
  }

  /** The first and the last CALLERS of the first and the last LAND, with all their calls. */
  private static void promise9NextYear() {
    String calls = "start; call 0 0 1 10; call 0 9 2 10; call 7 0 1 10; call 7 9 2 10; close; ";
    BOUNDS.row(Scenes.songs(Scenes.lands(8).then("rules 180 6 10 0 false"), 1, 2)
        .then(calls + Scenes.reads(8) + "readCalls; readCalls; end; next; enter 1 100 1 0;"
            + "enter 2 100 1 0; start"),
        "ofLand 0 6 = 0", "ofLand 7 6 = 0", "gives 0 1 false = 0", "call 0 0 1 99 = 10",
        "ofLand 0 6 = 10", "call 0 9 2 99 = 10", "ofLand 0 6 = 20", "call 7 0 1 99 = 10",
        "ofLand 7 6 = 10", "call 7 9 2 99 = 10", "ofLand 7 6 = 20", "call 7 9 1 1 = 0");
  }

  /** All 10 CALLERS of a LAND with all their calls, two of them for each of five songs. */
  private static void promise9Full() {
    StringBuilder calls = new StringBuilder();
    for (int song = 0; song < 5; song++) {
      calls.append(Scenes.callers(7, 2 * song, 2, song, 10));
    }
    Scene full = Scenes.voting(8).then(calls.toString());
    BOUNDS.row(full, "ofLand 7 6 = 100", "call 7 0 5 1 = 0", "call 7 9 5 99 = 0", "call 7 10 5 1 = INDEX",
        "ofLand 7 6 = 100", "ofLand 7 7 = 0", "gives 7 4 false = 6", "gives 7 5 false = 0");
    BOUNDS.unchanged(full, "call 7 4 6 1", 0);
  }

  // ---- promise 10: disqualify

  private static void promise10Numbers() {
    BOUNDS.outside(Scenes.VOTES, "disqualify #", 0, 2, INDEX);
    BOUNDS.outside(Scenes.READING, "disqualify #", 0, 2, INDEX);
    BOUNDS.outside(Scenes.voting(8), "disqualify #", 0, 7, INDEX);
    refusedIn("disqualify 3", INDEX, 0, 1, 2, 3);
    refusedIn("disqualify 4", INDEX, 0, 1, 2, 3);
    refused(Scenes.SECOND_YEAR, "disqualify 0", INDEX);
  }

  /** Not, if there are fewer than 3 that are not DISQUALIFIED. */
  private static void promise10Left() {
    BOUNDS.row(Scenes.VOTES, "disqualify 2 = 2", "disqualify 0 = STATE", "disqualify 1 = STATE",
        "disqualify 2 = STATE", "many 4 = 1");
    Scene two = Scenes.ENTRIES.then("withdraw 0; start");
    refused(two, "disqualify 1", STATE);
    refused(two.then("close"), "disqualify 2", STATE);
    refused(Scenes.VOTES.then("disqualify 0"), "disqualify 1", STATE);
    refused(Scenes.READING.then("disqualify 0"), "disqualify 1", STATE);
    // One that is DISQUALIFIED, with 3 and more others left.
    refused(Scenes.voting(4).then("disqualify 3"), "disqualify 3", STATE);
    refused(Scenes.voting(8).then("disqualify 0; close"), "disqualify 0", STATE);
    BOUNDS.row(Scenes.voting(8), "disqualify 7 = 7", "disqualify 0 = 6", "disqualify 6 = 5",
        "disqualify 1 = 4", "disqualify 1 = STATE", "disqualify 5 = 3", "disqualify 2 = 2",
        "disqualify 3 = STATE", "disqualify 4 = STATE", "many 4 = 6", "many 3 = 8");
  }

  private static void promise10Phases() {
    refusedIn("disqualify 0", STATE, 0, 3);
    BOUNDS.row(Scenes.VOTES, "disqualify 0 = 2", "many 4 = 1");
    BOUNDS.row(Scenes.READING, "disqualify 0 = 2", "many 4 = 1");
    BOUNDS.row(Scenes.ALL_READ, "disqualify 0 = 2", "many 4 = 1");
    refused(Scenes.ENTRIES.then("enter 3 100 1 0"), "disqualify 3", STATE);
    refused(Scenes.VOTES.then("disqualify 0; close; " + Scenes.reads(4) + "readCalls; readCalls; end"),
        "disqualify 0", STATE);
  }

  /** What this SONG has on the BOARD is 0 from then on; of the others it stays. */
  private static void promise10Board() {
    BOUNDS.row(Scenes.READING, "ofSong 2 9 = 12", "ofSong 1 9 = 10", "disqualify 2 = 2",
        "ofSong 2 9 = 0", "ofSong 1 9 = 10", "correct 0 = 2", "ofSong 2 9 = 0", "ofSong 1 9 = 12");
    BOUNDS.row(Scenes.ALL_LANDS_READ, "readCalls = 24", "ofSong 0 9 = 36", "disqualify 0 = 2",
        "ofSong 0 9 = 0", "ofSong 1 9 = 20", "ofSong 2 9 = 32", "many 8 = 1");
    BOUNDS.row(Scenes.VOTES, "disqualify 2 = 2", "close = 2", "read 0 = 1", "ofSong 2 9 = 0");
  }

  // ---- promise 11: close

  private static void promise11() {
    refusedIn("close", STATE, 0, 2, 3);
    refused(Scenes.LANDS, "close", STATE);
    refused(Scenes.SECOND_YEAR, "close", STATE);
    BOUNDS.row(Scenes.VOTES, "close = 2", "many 1 = 2", "close = STATE");
  }

  /** VOID with fewer than 2 BALLOTS. */
  private static void promise11Void() {
    BOUNDS.row(Scenes.voting(8), "close = 8");
    BOUNDS.row(Scenes.voting(3).then("jury 0 0 0; jury 1 1 0; jury 2 2 0"), "close = 3");
    BOUNDS.row(Scenes.voting(3).then("jury 0 0 0; jury 1 1 0; jury 2 2 0; jury 1 0 0"), "close = 2");
    BOUNDS.row(Scenes.voting(3).then(
        Scenes.jurors(0, 2, 0) + Scenes.jurors(1, 3, 0) + Scenes.jurors(2, 5, 0)), "close = 0");
  }
}
