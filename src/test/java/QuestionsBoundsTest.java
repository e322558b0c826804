import java.math.BigInteger;
import java.util.Arrays;

/** The boundary cases of the promises 18 to 30: what is asked, and what would be. */
public final class QuestionsBoundsTest {
  private static final Bounds BOUNDS = new Bounds("QuestionsBoundsTest");
  private static final String INDEX = Bounds.INDEX;
  private static final String ARGUMENT = Bounds.ARGUMENT;

  private QuestionsBoundsTest() {}

  public static void main(String[] args) {
    promise18Numbers();
    promise18Ballots();
    promise18Calls();
    promise18Years();
    promise19Numbers();
    promise19Disqualified();
    promise19Ranks();
    promise20Numbers();
    promise20NoCandidate();
    promise21();
    promise22();
    promise23Numbers();
    promise23Host();
    promise23Winner();
    promise23Read();
    promise24();
    promise25Ties();
    promise25JustClosed();
    promise25Disqualified();
    promise25Failed();
    promise25Phases();
    promise26Least();
    promise26CanBeRead();
    promise26Phases();
    promise27Numbers();
    promise27Ties();
    promise28Numbers();
    promise28First();
    promise28Gaps();
    promise28Others();
    promise28Full();
    promise29None();
    promise29Least();
    promise29Phases();
    promise29Disqualified();
    promise30();
    BOUNDS.finish();
  }

  /** In all phases. */
  private static void outside(String call, int low, int high, String exception) {
    for (Scene scene : Scenes.PHASES) {
      BOUNDS.outside(scene, call, low, high, exception);
    }
  }

  private static void refused(String call, String exception) {
    for (Scene scene : Scenes.PHASES) {
      BOUNDS.refused(scene, call, exception);
    }
  }

  // ---- promise 18: ofLand

  private static void promise18Numbers() {
    outside("ofLand # 0", 0, 3, INDEX);
    outside("ofLand 0 #", 0, 10, ARGUMENT);
    refused("ofLand 4 11", INDEX);
    refused("ofLand -1 -1", INDEX);
    BOUNDS.outside(Scenes.NEW, "ofLand # 0", 0, -1, INDEX);
    BOUNDS.outside(Scenes.lands(8), "ofLand # 10", 0, 7, INDEX);
    BOUNDS.row(Scenes.lands(8), "ofLand 7 0 = 0", "ofLand 7 1 = 999", "ofLand 7 2 = 100",
        "ofLand 7 3 = 0", "ofLand 7 4 = -1", "ofLand 7 5 = 1", "ofLand 7 6 = 0", "ofLand 7 7 = 0",
        "ofLand 7 8 = 0", "ofLand 7 9 = 0", "ofLand 7 10 = 0", "ofLand 7 11 = ARGUMENT");
  }

  /** Land 5 votes for the songs 0 to 4. */
  private static Scene fiveSongs() {
    return Scenes.songs(Scenes.lands(6).then("rules 180 6 10 0 false"), 0, 1, 2, 3, 4).then("start");
  }

  /** An OUTLIER is any of the JURORS 0 to 4: (4 3 2 1 0) among (0 1 2 3 4). */
  private static void promise18Ballots() {
    BOUNDS.row(fiveSongs(), "ofLand 5 3 = 0", "ofLand 5 5 = 1", "jury 5 0 119 = 4", "ofLand 5 3 = 1",
        "ofLand 5 5 = 1", "jury 5 1 0 = 0", "ofLand 5 3 = 2", "ofLand 5 5 = 0", "ofLand 5 4 = -1",
        "jury 5 2 0 = 0", "ofLand 5 3 = 3", "ofLand 5 4 = 0", "jury 5 0 0 = 0", "ofLand 5 4 = -1",
        "jury 5 4 119 = 4", "ofLand 5 3 = 4", "ofLand 5 4 = 4", "jury 5 3 0 = 0", "ofLand 5 3 = 5",
        "ofLand 5 4 = 4");
  }

  private static void promise18Calls() {
    BOUNDS.row(fiveSongs(), "ofLand 5 6 = 0", "call 5 0 0 1 = 1", "ofLand 5 6 = 1",
        "call 5 9 1 10 = 10", "ofLand 5 6 = 11", "call 5 8 1 10 = 10", "ofLand 5 6 = 21",
        "ofLand 5 7 = 0", "call 5 7 1 10 = 10", "ofLand 5 6 = 1", "ofLand 5 7 = 3");
    BOUNDS.row(fiveSongs().then(Scenes.callers(5, 0, 10, 4, 10)), "ofLand 5 6 = 0", "ofLand 5 7 = 10",
        "disqualify 4 = 4", "ofLand 5 7 = 10", "ofLand 5 6 = 0");
  }

  /** How often ever: 21 years at most. The halves change places from year to year. */
  private static void promise18Years() {
    BOUNDS.row(Scenes.yearsOfTwo(1), "ofLand 0 9 = 1", "ofLand 1 9 = 0", "ofLand 0 10 = 1");
    BOUNDS.row(Scenes.yearsOfTwo(2), "ofLand 0 9 = 1", "ofLand 1 9 = 1", "ofLand 1 10 = 1");
    BOUNDS.row(Scenes.yearsOfTwo(21), "ofLand 0 9 = 11", "ofLand 1 9 = 10", "ofLand 0 10 = 11",
        "ofLand 1 10 = 10", "ofLand 0 2 = -220", "ofLand 1 2 = -210");
    BOUNDS.row(Scenes.READING, "ofLand 0 8 = 1", "ofLand 1 8 = 0", "ofLand 3 8 = 0", "read 3 = 0",
        "ofLand 3 8 = 1");
  }

  // ---- promise 19: ofSong

  private static void promise19Numbers() {
    outside("ofSong # 0", 0, 2, INDEX);
    outside("ofSong 0 #", 0, 9, ARGUMENT);
    refused("ofSong 3 10", INDEX);
    refused("ofSong 4 -1", INDEX);
    BOUNDS.outside(Scenes.voting(8), "ofSong # 9", 0, 7, INDEX);
    BOUNDS.row(Scenes.ENTRIES, "ofSong 2 0 = 103", "ofSong 2 1 = 3", "ofSong 2 2 = 1",
        "ofSong 2 3 = 2", "ofSong 2 4 = 0", "ofSong 2 8 = 2", "ofSong 2 9 = 0", "withdraw 2 = 2",
        "ofSong 2 0 = INDEX");
    BOUNDS.refused(Scenes.SECOND_YEAR, "ofSong 0 0", INDEX);
    BOUNDS.refused(Scenes.SECOND_YEAR, "ofSong 0 10", INDEX);
  }

  /** 5 to 7: 0, 8: NONE; its place in the ORDER stays. */
  private static void promise19Disqualified() {
    BOUNDS.row(Scenes.READING, "ofSong 2 5 = 32", "ofSong 1 6 = 12", "ofSong 2 7 = 32",
        "disqualify 2 = 2", "ofSong 2 0 = 103", "ofSong 2 1 = 3", "ofSong 2 2 = 1", "ofSong 2 3 = 2",
        "ofSong 2 4 = 1", "ofSong 2 5 = 0", "ofSong 2 6 = 0", "ofSong 2 7 = 0", "ofSong 2 8 = -1",
        "ofSong 2 9 = 0");
    BOUNDS.row(Scenes.VOTES.then("disqualify 0"), "ofSong 0 4 = 1", "ofSong 0 6 = 0", "ofSong 0 7 = 0",
        "ofSong 0 8 = -1", "ofSong 1 4 = 0", "ofSong 1 8 = 0", "ofSong 2 8 = 1");
  }

  /** From 0: all are RANKED by the ORDER, as long as there are no points. */
  private static void promise19Ranks() {
    BOUNDS.row(Scenes.voting(8), "ofSong 0 8 = 0", "ofSong 7 8 = 7", "ofSong 7 3 = 7",
        "move 7 0 = 0", "ofSong 7 8 = 0", "ofSong 7 3 = 0", "ofSong 6 8 = 7", "disqualify 7 = 7",
        "ofSong 7 8 = -1", "ofSong 7 3 = 0", "ofSong 0 8 = 0", "ofSong 6 8 = 6");
  }

  // ---- promise 20: gives

  private static void promise20Numbers() {
    for (String isJury : new String[] {"true", "false"}) {
      outside("gives # 0 " + isJury, 0, 3, INDEX);
      outside("gives 0 # " + isJury, 0, 2, INDEX);
      refused("gives 4 3 " + isJury, INDEX);
      BOUNDS.outside(Scenes.voting(8), "gives # 7 " + isJury, 0, 7, INDEX);
      BOUNDS.outside(Scenes.voting(8), "gives 7 # " + isJury, 0, 7, INDEX);
      BOUNDS.refused(Scenes.SECOND_YEAR, "gives 0 0 " + isJury, INDEX);
      BOUNDS.refused(Scenes.LANDS, "gives 0 0 " + isJury, INDEX);
    }
  }

  /** 0, if it is no CANDIDATE. */
  private static void promise20NoCandidate() {
    BOUNDS.row(Scenes.VOTES, "gives 0 0 true = 0", "gives 0 0 false = 0", "gives 3 0 true = 12",
        "gives 3 0 false = 12", "disqualify 0 = 2", "gives 3 0 true = 0", "gives 3 0 false = 0",
        "gives 0 0 true = 0");
    BOUNDS.row(Scenes.ENTRIES, "gives 3 0 true = 0", "gives 3 0 false = 0", "gives 0 0 true = 0");
  }

  // ---- promise 21: at

  private static void promise21() {
    outside("at #", 0, 2, INDEX);
    BOUNDS.outside(Scenes.NEW, "at #", 0, -1, INDEX);
    BOUNDS.refused(Scenes.LANDS, "at 0", INDEX);
    BOUNDS.refused(Scenes.SECOND_YEAR, "at 0", INDEX);
    BOUNDS.row(Scenes.LANDS, "enter 3 100 1 0 = 1", "at 0 = 3", "at 1 = INDEX", "withdraw 3 = 0",
        "at 0 = INDEX");
    BOUNDS.range(Scenes.voting(8), "at #", 0, 7, INDEX, 0, 7);
    BOUNDS.row(Scenes.VOTES.then("disqualify 2"), "at 0 = 0", "at 2 = 2", "at 3 = INDEX");
  }

  // ---- promise 22: ranked

  private static void promise22() {
    outside("ranked #", 0, 2, INDEX);
    BOUNDS.outside(Scenes.NEW, "ranked #", 0, -1, INDEX);
    BOUNDS.refused(Scenes.LANDS, "ranked 0", INDEX);
    BOUNDS.refused(Scenes.SECOND_YEAR, "ranked 0", INDEX);
    BOUNDS.row(Scenes.LANDS, "enter 3 100 1 0 = 1", "ranked 0 = 3", "ranked 1 = INDEX",
        "withdraw 3 = 0", "ranked 0 = INDEX");
    BOUNDS.range(Scenes.voting(8), "ranked #", 0, 7, INDEX, 0, 7);
    BOUNDS.row(Scenes.voting(8).then("disqualify 0"), "ranked 0 = 1", "ranked 6 = 7",
        "ranked 7 = INDEX", "disqualify 7 = 6", "ranked 5 = 6", "ranked 6 = INDEX");
    BOUNDS.refused(Scenes.VOTES.then("disqualify 2"), "ranked 2", INDEX);
  }

  // ---- promise 23: many

  private static void promise23Numbers() {
    outside("many #", 0, 11, ARGUMENT);
    BOUNDS.outside(Scenes.NEW, "many #", 0, 11, ARGUMENT);
    BOUNDS.row(Scenes.voting(8), "many 0 = 0", "many 1 = 1", "many 2 = 8", "many 3 = 8", "many 4 = 0",
        "many 5 = 0", "many 6 = 8", "many 7 = 0", "many 8 = 0", "many 9 = -1", "many 10 = -1",
        "many 11 = 0", "many 12 = ARGUMENT");
  }

  /** The HOST is NONE ahead of the END. */
  private static void promise23Host() {
    BOUNDS.row(Scenes.ALL_READ, "many 9 = -1", "end = 0", "many 9 = 0", "next = 1", "many 9 = -1",
        "enter 0 100 1 0 = 1", "enter 1 100 1 0 = 0", "start = 2", "many 9 = -1", "close = 4",
        "many 9 = -1");
  }

  /** The LAND that WON the YEAR before this one: NONE in the YEAR 0, also in the PHASE 3. */
  private static void promise23Winner() {
    BOUNDS.row(Scenes.yearsOfTwo(1), "many 1 = 3", "many 10 = -1", "next = 1", "many 10 = 0");
    // 1 wins the year 1: 0 is that of the year before in the phase 3, too.
    BOUNDS.row(Scenes.yearsOfTwo(2), "many 1 = 3", "ofLand 1 9 = 1", "many 10 = 0", "next = 2",
        "many 10 = 1");
    BOUNDS.row(Scenes.yearsOfTwo(21), "many 10 = 1");
  }

  private static void promise23Read() {
    BOUNDS.row(Scenes.ALL_LANDS_READ, "many 7 = 4", "many 8 = 0", "readCalls = 24", "many 8 = 1",
        "disqualify 0 = 2", "many 8 = 1", "many 4 = 1", "readCalls = 1012", "readCalls = 2000",
        "many 8 = 3");
    // One that is disqualified ahead of that is not read.
    BOUNDS.row(Scenes.ALL_LANDS_READ.then("disqualify 0"), "many 8 = 0", "readCalls = 1012",
        "readCalls = 2000", "many 8 = 2");
  }

  // ---- promise 24: meanTotal

  private static void promise24() {
    BOUNDS.row(Scenes.NEW, "meanTotal = 0.0");
    BOUNDS.row(Scenes.LANDS, "meanTotal = 0.0", "enter 0 100 1 0 = 0", "meanTotal = 0.0");
    BOUNDS.row(Scenes.SECOND_YEAR, "meanTotal = 0.0");
    // Land 0 gives 12 and 10 to 1 and 2; by its sums land 1 gives 12 to 2, and land 2 12 to 1.
    BOUNDS.row(Scenes.voting(3).then(Scenes.jurors(0, 2, 0)), "meanTotal = " + 46.0 / 3.0,
        "call 0 0 1 1 = 1", "meanTotal = " + 58.0 / 3.0, "disqualify 0 = 2", "meanTotal = 29.0");
    // Without 1: land 0 and land 1 give 12 to 2, and land 2 can give nothing.
    BOUNDS.row(Scenes.voting(3).then(Scenes.jurors(0, 2, 0) + "disqualify 1"), "meanTotal = 12.0");
    BOUNDS.row(Scenes.voting(8).then("call 7 0 0 1; disqualify 6"), "meanTotal = " + 12.0 / 7.0);
  }

  // ---- promise 25: isOpen

  /** Two songs, of lands of the pot 3; land 1 gives 12 to 0, the lands 2 and 3 can be told. */
  private static Scene twoSongs(String votes) {
    return Scenes.songs(Scene.of("land 3 0; land 3 0; land 0 0; land 1 0; rules 180 6 10 0 false"),
        0, 1).then("start; " + votes + "close");
  }

  /** What it has and 12 for each LAND that was not READ is no less than the most. */
  private static void promise25Ties() {
    // Behind 1, 0 has 12, and by the sums of 1, land 0 has no candidate with some.
    Scene scene = twoSongs("jury 1 0 0; jury 1 1 0; ");
    BOUNDS.row(scene.then("read 1; read 2"), "ofSong 0 9 = 12", "ofSong 1 9 = 0", "isOpen = true",
        "read 3 = -1", "isOpen = true", "read 0 = -1", "isOpen = false");
    // For its own land there are no 12.
    BOUNDS.row(twoSongs("jury 2 0 0; jury 2 1 0; ").then("read 2; read 0; read 3"), "ofSong 0 9 = 12",
        "ofSong 1 9 = 10", "isOpen = false");
    BOUNDS.row(twoSongs("jury 2 0 0; jury 2 1 0; ").then("read 2; read 1; read 3"), "ofSong 0 9 = 12",
        "ofSong 1 9 = 10", "isOpen = true", "read 0 = -1", "isOpen = false");
    // 12 for each of two lands.
    Scene two = twoSongs("jury 1 0 0; jury 1 1 0; jury 2 0 0; jury 2 1 0; ");
    BOUNDS.row(two.then("read 1; read 2"), "ofSong 0 9 = 24", "ofSong 1 9 = 10", "isOpen = true",
        "read 3 = -1", "isOpen = false");
  }

  /** 43, and 30 with 12 to come: just too few. */
  private static void promise25JustClosed() {
    Scene four = Scenes.songs(Scene.of("land 0 0; land 0 0; land 0 0; land 0 0; land 0 0"), 0, 1, 2, 3)
        .then("start; " + Scenes.jurors(1, 2, 0) + Scenes.jurors(2, 2, 0) + Scenes.jurors(3, 2, 1)
            + Scenes.jurors(4, 2, 9) + "close; read 1; read 2; read 3");
    BOUNDS.row(four, "ofSong 0 9 = 36", "isOpen = true", "read 4 = 1", "ofSong 0 9 = 43",
        "ofSong 1 9 = 30", "ofSong 2 9 = 30", "ofSong 3 9 = 24", "isOpen = false");
  }

  /** A song that is DISQUALIFIED can not have the most. */
  private static void promise25Disqualified() {
    // Four pots: land 3 alone gives points, 12 10 8. Then land 1 alone is left.
    Scene left = Scenes.songs(Scene.of("land 0 0; land 1 0; land 2 0; land 3 0"), 0, 1, 2)
        .then("start; " + Scenes.jurors(3, 2, 0) + "close; read 3; read 0; read 2");
    BOUNDS.row(left, "isOpen = true", "disqualify 2 = 2", "isOpen = false");
    // The first one has nothing any more: 1 has 10, 2 has 8.
    BOUNDS.row(left, "disqualify 0 = 2", "ofSong 1 9 = 10", "isOpen = true");
  }

  /** A LAND whose LINE FAILED was not READ: there are 12 to come from it, too. */
  private static void promise25Failed() {
    // Land 1 has 12 for 0 and nothing for 1, the lands 2 to 6 have 12 and 10: 72 and 50.
    Scene scene = Scenes.songs(Scenes.lands(8).then("rules 180 6 10 0 false"), 0, 1).then("start; "
        + Scenes.jurors(0, 2, 0) + Scenes.jurors(1, 2, 0) + Scenes.jurors(2, 2, 0) + "close; "
        + "read 1; read 2; read 3; read 4; read 5; read 6");
    BOUNDS.row(scene, "ofSong 0 9 = 72", "ofSong 1 9 = 50", "isOpen = true", "fail 0 = 1",
        "isOpen = true", "read 7 = 0", "isOpen = false");
    BOUNDS.row(scene, "fail 7 = 1", "isOpen = true", "read 0 = 1", "ofSong 1 9 = 62", "isOpen = true",
        "read 7 = 0", "isOpen = false");
  }

  private static void promise25Phases() {
    BOUNDS.row(Scenes.NEW, "isOpen = false");
    BOUNDS.row(Scenes.ENTRIES, "isOpen = false");
    BOUNDS.row(Scenes.VOTES, "isOpen = false", "close = 2", "isOpen = true");
    BOUNDS.row(Scenes.ALL_LANDS_READ, "isOpen = false");
    BOUNDS.row(Scenes.ENDED, "isOpen = false");
    BOUNDS.row(Scenes.SECOND_YEAR, "isOpen = false");
    // Nothing was given: the same for all, until all lands were read.
    BOUNDS.row(Scenes.voting(2).then("close"), "isOpen = true", "read 0 = -1", "isOpen = true",
        "read 1 = -1", "isOpen = false");
  }

  // ---- promise 26: nextRead

  /** Four songs of lands that give nothing; the lands 4, 5, 6 give by these orders. */
  private static Scene threeJuries(int of5, int of6) {
    return Scenes.songs(Scene.of("land 3 0; land 3 0; land 3 0; land 3 0; land 0 0; land 1 0; land 2 0"),
        0, 1, 2, 3).then("start; " + Scenes.jurors(4, 2, 0) + Scenes.jurors(5, 2, of5)
            + Scenes.jurors(6, 2, of6) + "close; " + Scenes.reads(4));
  }

  /** The difference that is least; of several the smallest one. */
  private static void promise26Least() {
    // Behind land 4 it is 12 10 8 7. (2 0 1 3) makes 22 18 20 14, (3 1 2 0) makes 19 20 16 19.
    BOUNDS.row(threeJuries(12, 21), "nextRead = 4", "read 4 = 0", "nextRead = 6");
    BOUNDS.row(threeJuries(21, 12), "nextRead = 4", "read 4 = 0", "nextRead = 5");
    // (1 2 3 0) makes 19 22 18 15, (1 2 0 3) makes 20 22 18 14.
    BOUNDS.row(threeJuries(9, 8), "read 4 = 0", "nextRead = 6");
    // (0 1 2 3) makes 24 20 16 14, (3 0 1 2) makes 22 18 15 19.
    BOUNDS.row(threeJuries(0, 18), "read 4 = 0", "nextRead = 6");
    // Without 0, (2 3 1) makes 18 20 17 and (2 1 3) makes 20 20 15 of 1, 2, 3.
    BOUNDS.row(threeJuries(3, 12).then("read 4"), "disqualify 0 = 3", "nextRead = 6");
    BOUNDS.row(threeJuries(21, 21), "read 4 = 0", "nextRead = 5", "fail 5 = 1", "nextRead = 6");
    BOUNDS.row(threeJuries(12, 12), "read 4 = 0", "nextRead = 5", "read 5 = 2", "nextRead = 6",
        "read 6 = 2", "nextRead = -1");
  }

  private static void promise26CanBeRead() {
    BOUNDS.row(Scenes.voting(8).then("close"), "nextRead = 0", "fail 0 = 7", "nextRead = 1",
        "read 1 = -1", "nextRead = 0", "read 0 = -1", "nextRead = 2");
    BOUNDS.row(Scenes.voting(8).then("close; " + Scenes.reads(7)), "nextRead = 7", "read 7 = -1",
        "nextRead = -1");
    BOUNDS.row(Scenes.READING.then("fail 2; fail 3"), "nextRead = 1");
  }

  private static void promise26Phases() {
    BOUNDS.row(Scenes.NEW, "nextRead = -1");
    BOUNDS.row(Scenes.ENTRIES, "nextRead = -1");
    BOUNDS.row(Scenes.VOTES, "nextRead = -1");
    BOUNDS.row(Scenes.ALL_LANDS_READ, "nextRead = -1");
    BOUNDS.row(Scenes.ENDED, "nextRead = -1");
    BOUNDS.row(Scenes.SECOND_YEAR, "nextRead = -1");
  }

  // ---- promise 27: without

  private static void promise27Numbers() {
    outside("without #", 0, 3, INDEX);
    BOUNDS.outside(Scenes.NEW, "without #", 0, -1, INDEX);
    BOUNDS.outside(Scenes.voting(8), "without #", 0, 7, INDEX);
    BOUNDS.row(Scenes.LANDS, "without 0 = -1", "without 3 = -1", "enter 3 100 1 0 = 1", "without 0 = 3",
        "without 3 = 3", "withdraw 3 = 0", "without 3 = -1");
    BOUNDS.row(Scenes.SECOND_YEAR, "without 0 = -1");
    // Without the points of 0, 1 has 12 of 3; 2 has 10 of 3 and 12 of 1, by the sums of 0.
    BOUNDS.row(Scenes.VOTES.then("disqualify 0"), "ranked 0 = 1", "without 0 = 2");
  }

  private static void promise27Ties() {
    // 1 has 12 of 0 and 12 of 2 (by the sums of 0), 2 has 10 of 0 and 12 of 1.
    BOUNDS.row(Scenes.voting(3).then(Scenes.jurors(0, 2, 0)), "ranked 0 = 1", "without 0 = 1",
        "without 1 = 1", "without 2 = 2", "move 2 0 = 0", "without 0 = 2", "move 2 1 = 0",
        "without 0 = 2", "move 1 0 = 0", "without 0 = 1");
    // The ties are those of the others alone, by all rules of the ranking.
    BOUNDS.row(Ties.BY_CALL_POINTS.then("call 4 0 0 1"), "without 4 = 1", "ranked 0 = 0");
    BOUNDS.row(Ties.BY_LANDS.then("call 3 0 1 1"), "without 3 = 0", "ranked 0 = 1");
    BOUNDS.row(Ties.BY_TWELVES.then("call 6 0 1 1"), "without 6 = 3", "ranked 0 = 1");
    BOUNDS.row(Ties.BY_ORDER.then("call 3 0 1 1"), "without 3 = 2", "ranked 0 = 1");
  }

  // ---- promise 28: needCalls

  private static void promise28Numbers() {
    outside("needCalls # 0", 0, 3, INDEX);
    outside("needCalls 0 #", 0, 2, INDEX);
    refused("needCalls 4 3", INDEX);
    BOUNDS.outside(Scenes.voting(8), "needCalls # 7", 0, 7, INDEX);
    BOUNDS.outside(Scenes.voting(8), "needCalls 7 #", 0, 7, INDEX);
    BOUNDS.refused(Scenes.LANDS, "needCalls 0 0", INDEX);
    BOUNDS.refused(Scenes.SECOND_YEAR, "needCalls 1 0", INDEX);
    BOUNDS.row(Scenes.ENTRIES, "needCalls 0 0 = -1", "needCalls 3 0 = 1", "needCalls 3 2 = 1");
    BOUNDS.row(Scenes.VOTES, "needCalls 0 0 = -1", "disqualify 1 = 2", "needCalls 0 1 = -1",
        "needCalls 1 1 = -1", "needCalls 0 2 = 1");
    BOUNDS.row(Scenes.voting(2), "needCalls 0 0 = -1", "needCalls 0 1 = 1", "call 0 0 1 1 = 1",
        "needCalls 0 1 = 0");
  }

  /** 0, if it is first by now, with some calls. */
  private static void promise28First() {
    Scene scene = Scenes.voting(4);
    BOUNDS.row(scene, "needCalls 3 0 = 1", "needCalls 3 2 = 1", "call 3 0 1 1 = 1", "needCalls 3 1 = 0",
        "needCalls 3 0 = 1", "needCalls 3 2 = 2", "call 3 1 2 1 = 1", "needCalls 3 1 = 0",
        "needCalls 3 2 = 1", "call 3 1 2 1 = 1", "needCalls 3 2 = 0", "needCalls 3 1 = 1");
  }

  /** One CALLER more: as many calls are enough with more CALLERS, or as many and a smaller number. */
  private static void promise28Gaps() {
    Scene scene = Scenes.voting(4).then("call 3 0 1 3; call 3 1 1 2");
    // 1 has 5 calls of 2 callers.
    BOUNDS.row(scene, "needCalls 3 0 = 6", "needCalls 3 2 = 6", "call 3 2 0 1 = 1", "call 3 3 2 1 = 1",
        "needCalls 3 0 = 4", "needCalls 3 2 = 5", "call 3 4 2 1 = 1", "needCalls 3 2 = 3");
    // The most of several is to be reached: 1 has 3 of 3 callers, 2 has 3 of 1.
    BOUNDS.row(Scenes.voting(4).then("call 3 0 1 1; call 3 1 1 1; call 3 2 1 1; call 3 3 2 3"),
        "needCalls 3 0 = 4", "needCalls 3 2 = 1", "needCalls 3 1 = 0");
    BOUNDS.row(Scenes.voting(4).then("call 3 0 1 3; call 3 3 2 3"), "needCalls 3 0 = 3",
        "needCalls 3 2 = 1", "needCalls 3 1 = 0");
  }

  /** The first and the last SONG that there can be are among the others. */
  private static void promise28Others() {
    BOUNDS.row(Scenes.voting(8).then("call 3 0 0 5"), "needCalls 3 0 = 0", "needCalls 3 1 = 6",
        "needCalls 3 7 = 6", "needCalls 3 3 = -1");
    BOUNDS.row(Scenes.voting(8).then("call 3 0 7 5"), "needCalls 3 7 = 0", "needCalls 3 0 = 5",
        "needCalls 3 6 = 5", "disqualify 7 = 7", "needCalls 3 6 = 1", "needCalls 3 7 = -1");
    // Its own song is none of them.
    BOUNDS.row(Scenes.voting(2).then("call 1 0 0 5"), "needCalls 0 1 = 1", "needCalls 1 0 = 0");
  }

  private static void promise28Full() {
    Scene scene = Scenes.songs(Scenes.lands(4).then("rules 180 6 20 99 false"), 0, 1, 2).then("start");
    BOUNDS.row(scene.then(Scenes.callers(3, 0, 10, 1, 19)), "needCalls 3 1 = 0", "needCalls 3 0 = 191",
        "needCalls 3 2 = 191");
    // A block of 10 does not count.
    BOUNDS.row(scene.then(Scenes.callers(3, 0, 10, 1, 20)), "needCalls 3 1 = 1", "needCalls 3 0 = 1");
  }

  // ---- promise 29: bestMove

  private static Scene ofHalf0(int... props) {
    Scene scene = Scenes.lands(8);
    for (int land = 0; land < props.length; land++) {
      scene = scene.then("enter " + land + " " + (100 + land % 2) + " 1 " + props[land]);
    }
    return scene;
  }

  private static void promise29None() {
    BOUNDS.row(Scenes.NEW, "bestMove = -1");
    BOUNDS.row(ofHalf0(), "bestMove = -1");
    BOUNDS.row(ofHalf0(9), "bestMove = -1");
    BOUNDS.row(ofHalf0(9, 9), "bestMove = -1");
    BOUNDS.row(ofHalf0(0, 0, 0), "bestMove = -1");
    // 1 and 1; each other order makes 3.
    BOUNDS.row(ofHalf0(4, 3, 4), "many 5 = 2", "bestMove = -1");
    // 4 3 3 makes 1 too, 3 4 3 makes 2.
    BOUNDS.row(ofHalf0(3, 3, 4), "many 5 = 1", "bestMove = -1");
  }

  private static void promise29Least() {
    // 9 9 0: 15, but 9 0 9 makes 6, by 0 to 2, by 1 to 2, and by 2 to 1.
    BOUNDS.row(ofHalf0(9, 9, 0), "many 5 = 15", "bestMove = 2", "move 0 2 = 6", "bestMove = -1");
    // 4 3 0: 1, but 3 0 4 and 4 0 3 make 0.
    BOUNDS.row(ofHalf0(4, 3, 0), "many 5 = 1", "bestMove = 2", "move 0 2 = 0", "bestMove = -1");
    // 9 and 9 in the middle: 3, 12 and 3; one of them at an end makes 9, both make 6.
    BOUNDS.row(ofHalf0(0, 0, 0, 9, 9, 0, 0, 0), "many 5 = 18", "bestMove = 300", "move 3 0 = 9",
        "bestMove = 407", "move 4 7 = 6", "bestMove = -1");
    // All 9 but song 7: to part two of them, song 0 to the last place is the smallest number.
    BOUNDS.row(ofHalf0(9, 9, 9, 9, 9, 9, 9, 0), "many 5 = 75", "bestMove = 7", "move 0 7 = 66");
    // 0 1 | 2 3 with 0 9 | 9 0: only within the halves.
    BOUNDS.row(Scenes.lands(4).then("enter 0 100 1 0; enter 1 101 1 9; enter 2 101 1 9; enter 3 100 1 0"),
        "many 5 = 18", "bestMove = 1", "move 0 1 = 9");
    // 0 | 5 6 7 with 9 | 5 2 0: 9, but 9 | 0 5 2 makes 4, and no other move does.
    BOUNDS.row(Scenes.lands(8).then("enter 0 100 1 9; enter 5 100 1 5; enter 6 101 1 2; enter 7 100 1 0"),
        "many 5 = 9", "bestMove = 701", "move 7 1 = 4", "bestMove = -1");
  }

  private static void promise29Phases() {
    Scene scene = ofHalf0(9, 9, 0);
    BOUNDS.row(scene.then("start"), "bestMove = 2", "disqualify 1 = 2", "bestMove = 2",
        "close = 8", "bestMove = -1");
    BOUNDS.row(scene.then("start; close; " + Scenes.reads(8) + "readCalls; readCalls; readCalls"),
        "bestMove = -1", "end = 0", "bestMove = -1", "next = 1", "bestMove = -1");
  }

  /** All that move() could do: a DISQUALIFIED SONG can be moved, too. */
  private static void promise29Disqualified() {
    BOUNDS.row(ofHalf0(9, 9, 0).then("start"), "disqualify 0 = 2", "bestMove = 2", "move 0 2 = 6",
        "bestMove = -1");
    // Only 7 to the place 1 makes it less.
    BOUNDS.row(Scenes.lands(8).then("enter 0 100 1 9; enter 5 100 1 5; enter 6 101 1 2; enter 7 100 1 0;"
        + "start"), "disqualify 7 = 3", "bestMove = 701", "move 7 1 = 4", "bestMove = -1");
  }

  // ---- promise 30: digest

  /** It wraps around as a 64-bit integer: here it is found by numbers without a bound. */
  private static void promise30() {
    Scene[] scenes = {Scenes.NEW, Scenes.LANDS, Scenes.ENTRIES, Scenes.VOTES, Scenes.READING,
        Scenes.ALL_LANDS_READ, Scenes.ALL_READ, Scenes.ENDED, Scenes.SECOND_YEAR, Scenes.voting(8),
        Scenes.READING.then("disqualify 0; fail 1"), Scenes.yearsOfTwo(21),
        Scenes.voting(8).then(Scenes.jurors(3, 2, 5039) + "call 0 0 7 9; disqualify 4; close; read 3")};
    for (Scene scene : scenes) {
      BigInteger unbound = folded(scene.made());
      BOUNDS.row(scene, "digest = " + unbound.longValue(), "digest = " + unbound.longValue());
      BOUNDS.due("it wraps around behind " + scene, true, () -> unbound.bitLength() > 64);
    }
  }

  private static BigInteger folded(Songnations x) {
    int[] order = new int[x.many(3)];
    for (int place = 0; place < order.length; place++) {
      order[place] = x.at(place);
    }
    int[] songs = order.clone();
    Arrays.sort(songs);
    BigInteger[] d = {BigInteger.valueOf(58219)};
    for (int what = 0; what <= 11; what++) {
      fold(d, x.many(what));
    }
    for (int land = 0; land < x.many(2); land++) {
      foldLand(d, x, land, songs);
    }
    for (int song : songs) {
      for (int what = 0; what <= 9; what++) {
        fold(d, x.ofSong(song, what));
      }
    }
    for (int song : order) {
      fold(d, song);
    }
    for (int rank = 0; rank < order.length - x.many(4); rank++) {
      fold(d, x.ranked(rank));
    }
    fold(d, x.isOpen() ? 1 : 0);
    fold(d, x.nextRead());
    fold(d, x.bestMove());
    return d[0];
  }

  private static void foldLand(BigInteger[] d, Songnations x, int land, int[] songs) {
    for (int what = 0; what <= 10; what++) {
      fold(d, x.ofLand(land, what));
    }
    fold(d, x.without(land));
    for (int song : songs) {
      fold(d, x.gives(land, song, true));
      fold(d, x.gives(land, song, false));
      fold(d, x.needCalls(land, song));
    }
  }

  private static void fold(BigInteger[] d, int number) {
    d[0] = d[0].multiply(BigInteger.valueOf(31)).add(BigInteger.valueOf(number));
  }
}
