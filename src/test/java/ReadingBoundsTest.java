/** The boundary cases of the promises 12 to 17: the reading, and the next year. */
public final class ReadingBoundsTest {
  private static final Bounds BOUNDS = new Bounds("ReadingBoundsTest");
  private static final String INDEX = Bounds.INDEX;
  private static final String STATE = Bounds.STATE;

  private ReadingBoundsTest() {}

  public static void main(String[] args) {
    promise12States();
    promise12Last();
    promise12Again();
    promise12Stays();
    promise13States();
    promise13Answers();
    promise14States();
    promise14Next();
    promise14Disqualified();
    promise15States();
    promise15Answers();
    promise15Signs();
    promise15Calls();
    promise16States();
    promise16Disqualified();
    promise16Prize();
    promise16Beds();
    promise16NoHost();
    promise16Ranks();
    promise17States();
    promise17LastYear();
    promise17Anew();
    BOUNDS.finish();
  }

  private static void refused(Scene scene, String call, String exception) {
    BOUNDS.refused(scene, call, exception);
  }

  private static void refusedIn(String call, String exception, int... phases) {
    for (int phase : phases) {
      refused(Scenes.PHASES[phase], call, exception);
    }
  }

  // ---- promise 12: fail

  private static void promise12States() {
    BOUNDS.outside(Scenes.READING, "fail #", 0, 3, INDEX);
    BOUNDS.outside(Scenes.voting(8).then("close"), "fail #", 0, 7, INDEX);
    refused(Scenes.READING, "fail 0", STATE);
    refused(Scenes.ALL_LANDS_READ, "fail 0", STATE);
    refused(Scenes.ALL_READ, "fail 3", STATE);
    refusedIn("fail 1", STATE, 0, 1, 3);
    refusedIn("fail 4", INDEX, 0, 1, 2, 3);
    refusedIn("fail -1", INDEX, 0, 1, 2, 3);
  }

  /** Not, if no LAND could be READ behind it. */
  private static void promise12Last() {
    Scene oneLeft = Scenes.READING.then("fail 1; fail 2");
    refused(oneLeft, "fail 3", STATE);
    refused(Scenes.READING.then("read 1; read 2"), "fail 3", STATE);
    refused(Scenes.READING.then("read 2; fail 3"), "fail 1", STATE);
    BOUNDS.row(Scenes.READING.then("read 1"), "fail 2 = 1", "fail 3 = STATE", "read 3 = 0",
        "fail 2 = STATE", "read 2 = -1");
    BOUNDS.row(Scenes.voting(8).then("close"), "fail 0 = 7", "fail 7 = 6", "fail 1 = 5", "fail 2 = 4",
        "fail 3 = 3", "fail 4 = 2", "fail 5 = 1", "fail 6 = STATE", "read 5 = STATE", "read 6 = -1",
        "fail 0 = 6");
    BOUNDS.row(Scenes.voting(2).then("close"), "fail 1 = 1", "fail 0 = STATE", "read 0 = -1",
        "fail 1 = STATE");
  }

  /** One that FAILED can be told again: it is as it was, as long as another LAND can be READ. */
  private static void promise12Again() {
    BOUNDS.unchanged(Scenes.READING.then("fail 1"), "fail 1", 2);
    BOUNDS.unchanged(Scenes.READING.then("fail 1; fail 2"), "fail 1", 1);
    BOUNDS.unchanged(Scenes.READING.then("fail 1; fail 2"), "fail 2", 1);
    // It was well again, as another one was READ.
    BOUNDS.row(Scenes.READING.then("fail 1; read 2"), "fail 1 = 1", "fail 3 = STATE", "read 1 = STATE",
        "read 3 = 0", "read 1 = 2");
  }

  /** Until another LAND is READ, whatever else comes. */
  private static void promise12Stays() {
    BOUNDS.row(Scenes.READING, "fail 1 = 2", "correct 0 = 0", "read 1 = STATE", "disqualify 2 = 2",
        "read 1 = STATE", "fail 3 = 1", "read 1 = STATE", "read 2 = -1", "read 1 = -1", "read 3 = 0");
  }

  // ---- promise 13: read

  private static void promise13States() {
    BOUNDS.outside(Scenes.READING, "read #", 0, 3, INDEX);
    BOUNDS.outside(Scenes.voting(8).then("close"), "read #", 0, 7, INDEX);
    refused(Scenes.READING, "read 0", STATE);
    refused(Scenes.READING.then("fail 1"), "read 1", STATE);
    refused(Scenes.READING.then("fail 1; fail 3"), "read 1", STATE);
    refused(Scenes.ALL_LANDS_READ, "read 3", STATE);
    refused(Scenes.ALL_READ, "read 0", STATE);
    refusedIn("read 1", STATE, 0, 1, 3);
    refusedIn("read 4", INDEX, 0, 1, 2, 3);
    refusedIn("read -1", INDEX, 0, 1, 2, 3);
  }

  /** Land 0 (2 1), land 1 by the sums of 0, land 2 alone of its pot, land 3 (0 1 2). */
  private static void promise13Answers() {
    BOUNDS.row(Scenes.VOTES.then("close"), "read 0 = 2", "ofSong 2 9 = 12", "ofSong 1 9 = 10",
        "read 1 = 2", "read 2 = -1", "many 7 = 3", "read 3 = 0", "ofSong 0 9 = 12", "many 7 = 4",
        "ofSong 2 9 = 32", "read 3 = STATE");
    BOUNDS.row(Scenes.VOTES.then("close; fail 0; fail 1"), "read 1 = STATE", "read 2 = -1",
        "read 1 = 2", "read 0 = 2");
    // The points of now: without 2, land 0 gives 12 to 1.
    BOUNDS.row(Scenes.VOTES.then("close; disqualify 2"), "read 0 = 1", "ofSong 1 9 = 12");
    BOUNDS.row(Scenes.voting(8).then(Scenes.jurors(0, 2, 5039) + "close"), "read 7 = 6", "read 0 = 7",
        "ofSong 7 9 = 12");
  }

  // ---- promise 14: readCalls

  private static void promise14States() {
    refused(Scenes.READING, "readCalls", STATE);
    refused(Scenes.VOTES.then("close"), "readCalls", STATE);
    refused(Scenes.READING.then("read 1; read 2"), "readCalls", STATE);
    refused(Scenes.READING.then("read 3; read 2"), "readCalls", STATE);
    refused(Scenes.ALL_READ, "readCalls", STATE);
    refusedIn("readCalls", STATE, 0, 1, 3);
    refused(Scenes.SECOND_YEAR, "readCalls", STATE);
  }

  /** The least by JURY POINTS, of several the greatest number. */
  private static void promise14Next() {
    BOUNDS.row(Scenes.ALL_LANDS_READ, "readCalls = 24", "many 8 = 1", "ofSong 0 9 = 36",
        "readCalls = 1012", "readCalls = 2000", "many 8 = 3", "readCalls = STATE");
    BOUNDS.row(Scenes.voting(3).then("close; " + Scenes.reads(3)), "readCalls = 2000",
        "readCalls = 1000", "readCalls = 0", "readCalls = STATE");
    // Four songs of lands that give nothing; land 4 (0 3 1 2), so 12 8 7 10, by few calls too.
    Scene four = Scenes.songs(Scene.of("land 3 0; ".repeat(4) + "land 0 0; land 1 0"), 0, 1, 2, 3)
        .then("start; ");
    BOUNDS.row(four.then(Scenes.jurors(4, 2, 4) + "close; " + Scenes.reads(6)), "ofSong 2 9 = 7",
        "readCalls = 2007", "readCalls = 1008", "readCalls = 3010", "readCalls = 12", "end = 0");
    // Land 4 (0 1 2 3) and land 5 (1 0 3 2): 22 22 15 15.
    BOUNDS.row(four.then(Scenes.jurors(4, 2, 0) + Scenes.jurors(5, 2, 7) + "close; "
        + Scenes.reads(6)), "ofSong 1 9 = 22", "ofSong 3 9 = 15", "readCalls = 3015",
        "readCalls = 2015", "readCalls = 1022", "readCalls = 22");
    StringBuilder calls = new StringBuilder();
    for (int land = 0; land < 7; land++) {
      calls.append("call ").append(land).append(" 0 7 1; ");
    }
    BOUNDS.row(Scenes.voting(8).then(calls + "close; " + Scenes.reads(8)), "readCalls = 7084",
        "ofSong 7 9 = 84", "readCalls = 6000");
  }

  private static void promise14Disqualified() {
    BOUNDS.row(Scenes.ALL_LANDS_READ.then("disqualify 0"), "readCalls = 1012", "readCalls = 2000",
        "readCalls = STATE", "many 8 = 2");
    // 1 has 12 on the board, as land 0 gives it 12 of now; its call points of now are read.
    BOUNDS.row(Scenes.ALL_LANDS_READ.then("readCalls; disqualify 0"), "readCalls = 1012",
        "readCalls = 2000", "readCalls = STATE", "many 8 = 3");
    // Call points of now: 12 10 8 of 0, 1, 2, and 12 10 without 0.
    BOUNDS.row(Scenes.voting(4).then("call 3 0 0 3; call 3 1 1 2; call 3 2 2 1; close; "
        + Scenes.reads(4)), "disqualify 0 = 3", "readCalls = 3000", "readCalls = 2010",
        "readCalls = 1012");
    refused(Scenes.ALL_LANDS_READ.then("readCalls; readCalls; disqualify 2"), "readCalls", STATE);
    refused(Scenes.ALL_LANDS_READ.then("readCalls; readCalls; readCalls; disqualify 2"), "readCalls",
        STATE);
  }

  // ---- promise 15: correct

  private static void promise15States() {
    BOUNDS.outside(Scenes.READING, "correct #", 0, 3, INDEX);
    BOUNDS.outside(Scenes.voting(8).then("close; read 7"), "correct #", 0, 7, INDEX);
    refused(Scenes.READING, "correct 1", STATE);
    refused(Scenes.READING, "correct 3", STATE);
    refused(Scenes.READING.then("fail 1"), "correct 1", STATE);
    refusedIn("correct 0", STATE, 0, 1, 3);
    refusedIn("correct 4", INDEX, 0, 1, 2, 3);
    refusedIn("correct -1", INDEX, 0, 1, 2, 3);
    refused(Scenes.SECOND_YEAR, "correct 0", STATE);
  }

  private static void promise15Answers() {
    BOUNDS.row(Scenes.READING, "correct 0 = 0", "many 11 = 1", "correct 1 = STATE", "many 11 = 1",
        "read 1 = 2", "correct 1 = 0", "many 11 = 2", "disqualify 2 = 2", "many 11 = 2");
    // Land 3: 12 10 8 for 0 1 2; without 0 it is 12 for 1, 10 for 2.
    BOUNDS.row(Scenes.ALL_LANDS_READ, "ofSong 1 9 = 20", "ofSong 2 9 = 32", "disqualify 0 = 2",
        "correct 3 = 4", "ofSong 1 9 = 22", "ofSong 2 9 = 34", "correct 3 = 0", "correct 2 = 0", "many 11 = 3");
    BOUNDS.row(Scenes.ALL_READ, "correct 3 = 0", "end = 0", "correct 3 = STATE", "many 11 = 1",
        "next = 1", "many 11 = 1");
    // Calls on the board stay.
    BOUNDS.row(Scenes.ALL_LANDS_READ.then("readCalls; disqualify 2"), "ofSong 0 9 = 36",
        "correct 3 = 0", "ofSong 0 9 = 36", "correct 0 = 2", "ofSong 1 9 = 22", "ofSong 0 9 = 36");
  }

  /** The differences without their signs: 0 goes up, 1 goes down. */
  private static void promise15Signs() {
    // Land 4: (1 3 0 2) and (0 1 2 3), so 1 0 3 2 by 22 20 17 15; without 3 it is 0 1 2 by 22 22 16.
    Scene scene = Scenes.songs(Scenes.lands(5), 0, 1, 2, 3).then("start; jury 4 0 10; jury 4 1 0; close");
    BOUNDS.row(scene, "read 4 = 1", "correct 4 = 0", "disqualify 3 = 3", "ofSong 0 9 = 10",
        "ofSong 1 9 = 12", "ofSong 2 9 = 7", "correct 4 = 5", "ofSong 0 9 = 12", "ofSong 1 9 = 10",
        "ofSong 2 9 = 8", "ofSong 3 9 = 0", "correct 4 = 0", "many 11 = 3");
    // Ahead of a correction that of 3 is no difference more: it is 0 on the board by then.
    BOUNDS.row(scene.then("disqualify 3"), "read 4 = 0", "correct 4 = 0", "many 11 = 1");
  }

  /** JURY POINTS alone: the CALL POINTS of now are others, but those on the BOARD stay. */
  private static void promise15Calls() {
    // Land 3 calls for 0, 1, 2: 12 10 8; without 0 it is 12 10 for 1, 2.
    Scene scene = Scenes.voting(4).then("call 3 0 0 3; call 3 1 1 2; call 3 2 2 1; close; "
        + Scenes.reads(4) + "readCalls; readCalls");
    BOUNDS.row(scene, "ofSong 2 9 = 8", "disqualify 0 = 3", "ofSong 2 6 = 10", "correct 3 = 0",
        "correct 2 = 0", "ofSong 2 9 = 8", "readCalls = 1012", "end = 1", "ofSong 2 9 = 8");
  }

  // ---- promise 16: end

  private static void promise16States() {
    refused(Scenes.VOTES.then("close"), "end", STATE);
    refused(Scenes.READING.then("read 1; read 2"), "end", STATE);
    refused(Scenes.ALL_LANDS_READ, "end", STATE);
    refused(Scenes.ALL_LANDS_READ.then("readCalls; readCalls"), "end", STATE);
    refusedIn("end", STATE, 0, 1, 2, 3);
    refused(Scenes.SECOND_YEAR, "end", STATE);
    BOUNDS.row(Scenes.ALL_READ, "many 9 = -1", "end = 0", "many 1 = 3", "end = STATE");
  }

  /** If all was READ, DISQUALIFIED SONGS aside. */
  private static void promise16Disqualified() {
    BOUNDS.row(Scenes.ALL_LANDS_READ.then("readCalls; readCalls"), "end = STATE", "disqualify 2 = 2",
        "end = 0");
    BOUNDS.row(Scenes.ALL_LANDS_READ.then("readCalls"), "disqualify 2 = 2", "end = STATE",
        "readCalls = 1012", "end = 0");
    // All lands: those of disqualified songs, too.
    BOUNDS.row(Scenes.VOTES.then("disqualify 0; close; read 1; read 2; read 3"), "end = STATE",
        "readCalls = STATE", "read 0 = 2", "readCalls = 1012", "readCalls = 2000", "end = 1");
    // The first of those that are left, though 0 had the most.
    BOUNDS.row(Scenes.ALL_READ, "ranked 0 = 0", "disqualify 0 = 2", "end = 1", "ofLand 0 2 = 90",
        "ofLand 1 9 = 1", "ofLand 0 9 = 0");
  }

  /** 50 for the winner, 60 of the host; the fee was 10. */
  private static void promise16Prize() {
    BOUNDS.row(Scenes.ALL_READ, "ofLand 0 2 = 90", "end = 0", "ofLand 0 2 = 80", "ofLand 0 9 = 1",
        "ofLand 0 10 = 1", "ofLand 1 2 = 90", "ofLand 1 9 = 0", "ofLand 1 10 = 0", "ofLand 3 2 = 100",
        "many 9 = 0");
  }

  /** The lands of two songs have these beds; 0 wins by the order. */
  private static Scene twoAtEnd(int beds, int others) {
    return Scene.of("land 0 " + beds + "; land 0 " + others + "; land 0 999; enter 0 100 1 0;"
        + "enter 1 101 1 0; start; close; read 0; read 1; read 2; readCalls; readCalls");
  }

  /** BEDS for 40 of each SONG, DISQUALIFIED ones, too. */
  private static void promise16Beds() {
    BOUNDS.row(twoAtEnd(80, 999), "end = 0", "many 9 = 0", "ofLand 0 2 = 80", "ofLand 1 2 = 90");
    BOUNDS.row(twoAtEnd(79, 999), "end = 0", "many 9 = 1", "ofLand 0 2 = 140", "ofLand 1 2 = 30",
        "ofLand 1 10 = 1");
    BOUNDS.row(twoAtEnd(79, 80), "end = 0", "many 9 = 1");
    String votes = "start; close; read 0; read 1; read 2; ";
    String calls = "readCalls; readCalls; ";
    Scene of119 = Scene.of("land 0 119; land 0 120; land 0 999").then(
        "enter 0 100 1 0; enter 1 101 1 0; enter 2 100 1 0; " + votes);
    BOUNDS.row(of119.then(calls + "readCalls"), "end = 0", "many 9 = 1");
    // Two are left, but beds are for three.
    BOUNDS.row(of119.then("disqualify 2; " + calls), "end = 0", "many 9 = 1");
    StringBuilder eight = new StringBuilder("land 0 319; land 0 320; ");
    eight.append("land 0 999; ".repeat(6));
    for (int land = 0; land < 8; land++) {
      eight.append("enter ").append(land).append(' ').append(100 + land % 2).append(" 1 0; ");
    }
    eight.append("start; close; ").append(Scenes.reads(8)).append("readCalls; ".repeat(8));
    BOUNDS.row(Scene.of(eight.toString()), "end = 0", "many 9 = 1", "ofLand 1 10 = 1");
  }

  private static void promise16NoHost() {
    BOUNDS.row(twoAtEnd(79, 79), "end = 0", "many 9 = -1", "ofLand 0 2 = 140", "ofLand 1 2 = 90",
        "ofLand 2 2 = 100", "ofLand 0 10 = 0", "ofLand 2 10 = 0");
    BOUNDS.row(twoAtEnd(0, 0), "end = 0", "many 9 = -1", "next = 1", "many 9 = -1", "many 10 = 0");
  }

  /** By the RANKS of now, not by what is on the BOARD. */
  private static void promise16Ranks() {
    // Lands 4 and 5: (1 2 0 3), land 6: (0 1 2 3), land 7: (0 3 1 2). So 0 has 40, 1 has 42; without 2
    // the lands 4 and 5 give 0 a 10, and it has 44.
    Scene scene = Scenes.songs(Scene.of("land 3 999; ".repeat(4) + "land 0 0; land 0 0; land 0 0; land 0 0;"
        + "rules 180 6 10 0 false"), 0, 1, 2, 3).then("start; " + Scenes.jurors(4, 2, 8)
        + Scenes.jurors(5, 2, 8) + Scenes.jurors(6, 2, 0) + Scenes.jurors(7, 2, 4) + "close; "
        + Scenes.reads(8) + "readCalls; readCalls; readCalls; readCalls");
    BOUNDS.row(scene, "ofSong 0 9 = 40", "ofSong 1 9 = 42", "ranked 0 = 1", "end = 1", "many 9 = 1",
        "ofLand 1 2 = 80", "ofLand 0 2 = 90");
    BOUNDS.row(scene, "disqualify 2 = 3", "ofSong 0 9 = 40", "ofSong 1 9 = 42", "ofSong 0 7 = 44",
        "ofSong 1 7 = 42", "ranked 0 = 0", "end = 0", "many 9 = 0", "ofLand 0 2 = 80", "ofLand 0 9 = 1",
        "ofLand 1 2 = 90", "ofLand 1 9 = 0", "ofSong 1 9 = 42");
  }

  // ---- promise 17: next

  private static void promise17States() {
    refusedIn("next", STATE, 0, 1, 2);
    refused(Scenes.ALL_READ, "next", STATE);
    refused(Scenes.LANDS, "next", STATE);
    refused(Scenes.SECOND_YEAR, "next", STATE);
    BOUNDS.row(Scenes.ENDED, "next = 1", "many 0 = 1", "many 1 = 0", "next = STATE");
  }

  /** A YEAR is 20 at most. */
  private static void promise17LastYear() {
    BOUNDS.row(Scenes.yearsOfTwo(19), "many 0 = 18", "next = 19");
    BOUNDS.row(Scenes.yearsOfTwo(20), "many 0 = 19", "next = 20", "many 0 = 20", "next = STATE");
    refused(Scenes.yearsOfTwo(21), "next", STATE);
    BOUNDS.row(Scenes.yearsOfTwo(21), "many 0 = 20", "many 1 = 3", "next = STATE", "many 0 = 20",
        "many 1 = 3");
  }

  /** Without SONGS, BALLOTS, calls, and with nothing READ; what LANDS have stays. */
  private static void promise17Anew() {
    BOUNDS.row(Scenes.SECOND_YEAR, "many 2 = 4", "many 3 = 0", "many 4 = 0", "many 5 = 0",
        "many 6 = 4", "many 7 = 0", "many 8 = 0", "many 9 = -1", "many 10 = 0", "ofLand 0 2 = 80",
        "ofLand 0 3 = 0", "ofLand 0 5 = 1", "ofLand 0 6 = 0", "ofLand 0 8 = 0", "ofLand 0 9 = 1",
        "ofLand 0 10 = 1", "ofSong 0 0 = INDEX", "at 0 = INDEX", "ranked 0 = INDEX");
    Scene votes = Scenes.SECOND_YEAR.then("enter 0 100 1 0; enter 2 100 1 0; enter 3 100 1 0; start");
    BOUNDS.row(votes, "ofSong 0 9 = 0", "gives 3 0 true = 0", "gives 3 0 false = 0", "many 6 = 4",
        "disqualify 0 = 2", "close = 4", "read 3 = -1", "fail 0 = 2", "read 1 = -1", "read 0 = -1",
        "read 2 = -1", "ofSong 2 9 = 0", "readCalls = 3000", "readCalls = 2000", "end = 3");
    // One that was disqualified, read and failed is as all others.
    Scene out = Scenes.VOTES.then("disqualify 2; close; fail 3; " + Scenes.reads(3)
        + "read 3; readCalls; readCalls; end; next; enter 2 100 1 0; enter 1 100 1 0; start");
    BOUNDS.row(out, "ofSong 2 4 = 0", "many 4 = 0", "call 3 0 2 1 = 1", "jury 3 0 1 = 2", "close = 4",
        "read 3 = -1");
  }
}
