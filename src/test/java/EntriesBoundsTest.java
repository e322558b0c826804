/** The boundary cases of the promises 1 to 7: a new object, and the entries. */
public final class EntriesBoundsTest {
  private static final Bounds BOUNDS = new Bounds("EntriesBoundsTest");
  private static final String INDEX = Bounds.INDEX;
  private static final String ARGUMENT = Bounds.ARGUMENT;
  private static final String STATE = Bounds.STATE;

  private EntriesBoundsTest() {}

  public static void main(String[] args) {
    promise1();
    promise2Numbers();
    promise2Full();
    promise2Phases();
    promise3Numbers();
    promise3Songs();
    promise3Length();
    promise3People();
    promise3Limit();
    promise3Threshold();
    promise3Audit();
    promise3Stay();
    promise4Numbers();
    promise4Nothing();
    promise4States();
    promise4Halves();
    promise4Money();
    promise4Order();
    promise5();
    promise5Left();
    promise6Lands();
    promise6Places();
    promise6FewSongs();
    promise6Phases();
    promise6Delay();
    promise7();
    BOUNDS.finish();
  }

  private static void refused(Scene scene, String call, String exception) {
    BOUNDS.refused(scene, call, exception);
  }

  /** Refused in all phases but these. */
  private static void refusedBut(String call, String exception, int... phases) {
    for (int phase = 0; phase < Scenes.PHASES.length; phase++) {
      boolean isLet = false;
      for (int its : phases) {
        isLet |= its == phase;
      }
      if (!isLet) {
        refused(Scenes.PHASES[phase], call, exception);
      }
    }
  }

  // ---- promise 1: without LANDS, in the YEAR 0

  private static void promise1() {
    BOUNDS.row(Scenes.NEW, "many 0 = 0", "many 1 = 0", "many 2 = 0", "many 3 = 0", "many 4 = 0",
        "many 5 = 0", "many 6 = 0", "many 7 = 0", "many 8 = 0", "many 9 = -1", "many 10 = -1",
        "many 11 = 0", "meanTotal = 0.0", "isOpen = false", "nextRead = -1", "bestMove = -1");
    String[] ofLands = {"enter 0 100 1 0", "withdraw 0", "move 0 0", "jury 0 0 0", "call 0 0 0 1",
        "disqualify 0", "fail 0", "read 0", "correct 0", "ofLand 0 0", "ofSong 0 0", "gives 0 0 true",
        "without 0", "needCalls 0 0", "at 0", "ranked 0"};
    for (String call : ofLands) {
      refused(Scenes.NEW, call, INDEX);
    }
    for (String call : new String[] {"start", "close", "readCalls", "end", "next"}) {
      refused(Scenes.NEW, call, STATE);
    }
  }

  // ---- promise 2: land

  private static void promise2Numbers() {
    BOUNDS.range(Scenes.NEW, "land # 500", 0, 3, ARGUMENT, 0, 0);
    BOUNDS.range(Scenes.NEW, "land 1 #", 0, 999, ARGUMENT, 0, 0);
    refused(Scenes.NEW, "land 4 1000", ARGUMENT);
    refused(Scenes.NEW, "land -1 -1", ARGUMENT);
    BOUNDS.row(Scenes.NEW, "land 3 0 = 0", "land 0 999 = 1", "ofLand 0 0 = 3", "ofLand 0 1 = 0",
        "ofLand 1 0 = 0", "ofLand 1 1 = 999", "ofLand 0 2 = 100", "ofLand 1 2 = 100");
  }

  /** 8 LANDS are let, a ninth one is not. */
  private static void promise2Full() {
    BOUNDS.row(Scenes.NEW, "land 0 0 = 0", "land 1 1 = 1", "many 6 = 2", "land 2 2 = 2",
        "land 3 3 = 3", "land 0 4 = 4", "land 1 5 = 5", "land 2 6 = 6", "land 3 7 = 7",
        "land 0 8 = STATE", "many 2 = 8", "many 6 = 8", "ofLand 7 0 = 3", "ofLand 7 1 = 7", "ofLand 8 0 = INDEX");
    Scene eight = Scenes.lands(8);
    refused(eight, "land 0 0", STATE);
    refused(eight, "land 4 0", ARGUMENT);
    refused(eight, "land 0 1000", ARGUMENT);
    refused(Scenes.voting(8), "land 0 0", STATE);
    refused(Scenes.voting(8), "land -1 0", ARGUMENT);
  }

  private static void promise2Phases() {
    refusedBut("land 0 0", STATE, 0);
    refusedBut("land 4 0", ARGUMENT);
    refusedBut("land 0 -1", ARGUMENT);
    // Of a later year too, and beside songs.
    BOUNDS.row(Scenes.ENTRIES, "land 3 999 = 4", "ofLand 4 2 = 100", "enter 4 100 1 0 = 0");
    BOUNDS.row(Scenes.SECOND_YEAR, "land 3 999 = 4", "ofLand 4 2 = 100", "ofLand 4 9 = 0");
  }

  // ---- promise 3: rules

  private static void promise3Numbers() {
    BOUNDS.range(Scenes.LANDS, "rules # 9 20 99 true", 60, 300, ARGUMENT, 180, 180);
    BOUNDS.range(Scenes.LANDS, "rules 300 # 20 99 true", 1, 9, ARGUMENT, 180, 180);
    BOUNDS.range(Scenes.LANDS, "rules 300 9 # 99 true", 1, 20, ARGUMENT, 180, 180);
    BOUNDS.range(Scenes.LANDS, "rules 300 9 20 # true", 0, 99, ARGUMENT, 180, 180);
    BOUNDS.row(Scenes.NEW, "rules 60 1 1 0 true = 180", "rules 300 9 20 99 false = 60",
        "rules 59 1 1 0 true = ARGUMENT", "rules 180 6 10 10 false = 300");
  }

  private static void promise3Songs() {
    Scene one = Scenes.LANDS.then("enter 3 100 1 0");
    refused(one, "rules 300 9 20 99 true", STATE);
    refused(one, "rules 301 9 20 99 true", ARGUMENT);
    refused(one, "rules 300 0 20 99 true", ARGUMENT);
    refused(one, "rules 300 9 21 99 true", ARGUMENT);
    refused(one, "rules 300 9 20 100 true", ARGUMENT);
    refusedBut("rules 300 9 20 99 true", STATE);
    refusedBut("rules 59 9 20 99 true", ARGUMENT);
    refusedBut("rules 300 9 20 -1 true", ARGUMENT);
    BOUNDS.row(one.then("enter 0 100 1 0"), "withdraw 3 = 1", "rules 300 9 20 99 true = STATE",
        "withdraw 0 = 0", "rules 300 9 20 99 true = 180");
    // A song that was not taken is none.
    BOUNDS.row(Scenes.LANDS, "enter 0 181 1 0 = -2", "enter 0 180 7 0 = -3",
        "rules 181 9 20 99 true = 180");
    BOUNDS.row(Scenes.SECOND_YEAR, "rules 181 9 20 99 true = 180");
  }

  private static void promise3Length() {
    Scene lands = Scenes.lands(3);
    BOUNDS.row(lands, "enter 0 181 1 0 = -2", "enter 0 180 1 0 = 0");
    BOUNDS.row(lands.then("rules 60 6 10 10 false"), "enter 0 61 1 0 = -2", "enter 0 60 1 0 = 0");
    BOUNDS.row(lands.then("rules 300 6 10 10 false"), "enter 0 301 1 0 = -2", "enter 0 300 1 0 = 0");
  }

  private static void promise3People() {
    Scene lands = Scenes.lands(3);
    BOUNDS.row(lands, "enter 0 100 7 0 = -3", "enter 0 100 6 0 = 0");
    BOUNDS.row(lands.then("rules 180 1 10 10 false"), "enter 0 100 2 0 = -3", "enter 0 100 1 0 = 0");
    BOUNDS.row(lands.then("rules 180 9 10 10 false"), "enter 0 100 10 0 = -3", "enter 0 100 9 0 = 0");
  }

  private static Scene votingBy(String rules) {
    return Scenes.songs(Scenes.lands(3).then(rules), 0, 1).then("start");
  }

  private static void promise3Limit() {
    BOUNDS.row(votingBy(""), "call 2 0 0 10 = 10", "call 2 0 0 1 = 0", "call 2 1 0 11 = 10");
    BOUNDS.row(votingBy("rules 180 6 1 10 false"), "call 2 0 0 1 = 1", "call 2 0 0 1 = 0",
        "call 2 1 0 2 = 1");
    BOUNDS.row(votingBy("rules 180 6 20 10 false"), "call 2 0 0 20 = 20", "call 2 0 0 1 = 0",
        "call 2 1 0 21 = 20");
  }

  /** With fewer calls than THRESHOLD, CALL POINTS are like JURY POINTS: (0 1), by calls (1 0). */
  private static void promise3Threshold() {
    String votes = "jury 2 0 0; jury 2 1 0; ";
    BOUNDS.row(votingBy("").then(votes + "call 2 0 1 9"), "gives 2 0 false = 12",
        "gives 2 1 false = 10", "call 2 1 1 1 = 1", "gives 2 0 false = 0", "gives 2 1 false = 12");
    BOUNDS.row(votingBy("rules 180 6 10 0 false").then(votes), "gives 2 0 false = 0",
        "gives 2 1 false = 0");
    BOUNDS.row(votingBy("rules 180 6 10 1 false").then(votes), "gives 2 0 false = 12",
        "call 2 0 1 1 = 1", "gives 2 0 false = 0", "gives 2 1 false = 12");
    // 5 times 19 and 3 are 98; none calls up to the limit.
    BOUNDS.row(votingBy("rules 180 6 20 99 false").then(votes + Scenes.callers(2, 0, 5, 1, 19)),
        "call 2 5 1 3 = 3", "gives 2 0 false = 12", "gives 2 1 false = 10", "call 2 6 1 1 = 1",
        "ofLand 2 6 = 99", "gives 2 0 false = 0", "gives 2 1 false = 12");
  }

  /** Two lands whose juries have each other's song first, by three ballots. */
  private static void promise3Audit() {
    String pair = "jury 0 0 0; jury 0 1 0; jury 0 2 0; jury 1 0 0; jury 1 1 0; jury 1 2 0";
    BOUNDS.row(votingBy("").then(pair), "many 6 = 1");
    BOUNDS.row(votingBy("rules 180 6 10 0 false").then(pair), "many 6 = 1");
    BOUNDS.row(votingBy("rules 180 6 10 0 true").then(pair), "many 6 = 3");
    BOUNDS.row(votingBy("rules 180 6 10 0 true; rules 180 6 10 0 false").then(pair), "many 6 = 1");
  }

  /** They stay for the next YEARS, until others are told. */
  private static void promise3Stay() {
    Scene next = Scenes.lands(3).then("rules 60 1 1 99 true; enter 0 60 1 0; enter 1 60 1 0; start;"
        + "close; " + Scenes.reads(3) + "readCalls; readCalls; end; next");
    BOUNDS.row(next, "enter 0 61 1 0 = -2", "enter 0 60 2 0 = -3", "enter 0 60 1 0 = 1",
        "enter 1 60 1 0 = 0", "start = 2", "call 2 0 0 2 = 1", "gives 2 0 false = 0",
        "jury 0 0 0 = 1", "jury 0 1 0 = 1", "jury 0 2 0 = 1", "jury 1 0 0 = 0", "jury 1 1 0 = 0",
        "many 6 = 1", "jury 1 2 0 = 0", "many 6 = 3");
    BOUNDS.row(next, "rules 300 9 20 0 false = 60", "enter 0 300 9 0 = 1", "enter 1 300 9 0 = 0",
        "start = 2", "call 2 0 0 21 = 20", "gives 2 0 false = 12", "jury 0 0 0 = 1",
        "jury 0 1 0 = 1", "jury 0 2 0 = 1", "jury 1 0 0 = 0", "jury 1 1 0 = 0", "jury 1 2 0 = 0",
        "many 6 = 1");
  }

  // ---- promise 4: enter

  private static void promise4Numbers() {
    BOUNDS.range(Scenes.LANDS, "enter # 100 1 0", 0, 3, INDEX, 0, 1);
    BOUNDS.range(Scenes.lands(8), "enter # 100 1 0", 0, 7, INDEX, 0, 1);
    BOUNDS.range(Scenes.lands(1), "enter # 100 1 0", 0, 0, INDEX, 0, 0);
    BOUNDS.range(Scenes.LANDS, "enter 1 # 1 0", 1, 600, ARGUMENT, 0, -2);
    BOUNDS.range(Scenes.LANDS, "enter 1 101 # 0", 1, 20, ARGUMENT, 0, -3);
    BOUNDS.range(Scenes.LANDS, "enter 1 101 1 #", 0, 9, ARGUMENT, 0, 0);
    BOUNDS.row(Scenes.LANDS, "enter 1 1 1 9 = 0", "ofSong 1 0 = 1", "ofSong 1 1 = 9",
        "enter 0 180 6 0 = 0", "ofSong 0 0 = 180", "ofSong 0 1 = 0");
  }

  /** What is too long, or of too many PEOPLE, does nothing. */
  private static void promise4Nothing() {
    BOUNDS.unchanged(Scenes.LANDS, "enter 0 181 6 9", -2);
    BOUNDS.unchanged(Scenes.LANDS, "enter 0 600 1 9", -2);
    BOUNDS.unchanged(Scenes.LANDS, "enter 0 180 7 9", -3);
    BOUNDS.unchanged(Scenes.LANDS, "enter 0 180 20 9", -3);
    BOUNDS.unchanged(Scenes.LANDS, "enter 0 181 7 9", -2);
    BOUNDS.unchanged(Scenes.ENTRIES, "enter 3 181 7 9", -2);
    BOUNDS.unchanged(Scenes.ENTRIES, "enter 3 180 7 9", -3);
  }

  private static void promise4States() {
    refusedBut("enter 3 100 1 0", STATE, 0);
    refusedBut("enter 3 181 1 0", STATE, 0);
    refusedBut("enter 3 180 7 0", STATE, 0);
    refused(Scenes.ENTRIES, "enter 0 100 1 0", STATE);
    refused(Scenes.ENTRIES, "enter 2 600 20 0", STATE);
    refused(Scenes.ENTRIES, "enter 2 100 7 0", STATE);
    refused(Scenes.voting(8), "enter 7 100 1 0", STATE);
    // Two exceptions at once.
    refusedBut("enter 0 601 1 0", ARGUMENT);
    refusedBut("enter 3 100 21 0", ARGUMENT);
    refusedBut("enter 3 100 1 10", ARGUMENT);
    refusedBut("enter 4 100 1 0", INDEX);
    refusedBut("enter -1 0 0 -1", INDEX);
    refused(Scenes.NEW, "enter 0 0 1 0", INDEX);
    // One song a year: the next year, another one.
    BOUNDS.row(Scenes.SECOND_YEAR, "enter 0 100 1 0 = 1", "enter 0 100 1 0 = STATE");
  }

  /** (7 times the LAND, 3 times the YEAR, and SECONDS) modulo 2. */
  private static void promise4Halves() {
    BOUNDS.row(Scenes.lands(8), "enter 0 1 1 0 = 1", "enter 1 1 1 0 = 0", "enter 6 180 1 0 = 0",
        "enter 7 180 1 0 = 1", "ofSong 0 2 = 1", "ofSong 7 2 = 1", "ofSong 6 2 = 0");
    BOUNDS.row(Scenes.SECOND_YEAR, "enter 0 1 1 0 = 0", "enter 1 1 1 0 = 1", "enter 2 180 1 0 = 1");
    Scene lastYear = Scenes.yearsOfTwo(20).then("next");
    BOUNDS.row(lastYear, "many 0 = 20", "enter 0 1 1 0 = 1", "enter 1 1 1 0 = 0");
  }

  /** A FEE of 10, of 100 at first; it can be below 0. */
  private static void promise4Money() {
    Scene poor = Scenes.lands(1).then("enter 0 1 1 0; withdraw 0; ".repeat(9));
    BOUNDS.row(poor, "ofLand 0 2 = 10", "enter 0 1 1 0 = 1", "ofLand 0 2 = 0", "withdraw 0 = 0",
        "enter 0 1 1 0 = 1", "ofLand 0 2 = -10");
  }

  /** It is the last one of its HALF, ahead of all of the other one if that is the HALF 1. */
  private static void promise4Order() {
    BOUNDS.row(Scenes.lands(4), "enter 3 100 1 0 = 1", "at 0 = 3", "enter 1 100 1 0 = 1", "at 0 = 3",
        "at 1 = 1", "enter 2 100 1 0 = 0", "at 0 = 2", "at 1 = 3", "at 2 = 1", "enter 0 100 1 0 = 0",
        "at 0 = 2", "at 1 = 0", "at 2 = 3", "at 3 = 1", "at 4 = INDEX");
  }

  // ---- promise 5: withdraw

  private static void promise5() {
    BOUNDS.outside(Scenes.ENTRIES, "withdraw #", 0, 3, INDEX);
    BOUNDS.outside(Scenes.lands(8), "withdraw #", 0, 7, INDEX);
    refused(Scenes.ENTRIES, "withdraw 3", STATE);
    refused(Scenes.LANDS, "withdraw 0", STATE);
    refused(Scenes.SECOND_YEAR, "withdraw 0", STATE);
    refusedBut("withdraw 0", STATE, 0);
    refusedBut("withdraw 3", STATE);
    refusedBut("withdraw 4", INDEX);
    refusedBut("withdraw -1", INDEX);
  }

  private static void promise5Left() {
    BOUNDS.row(Scenes.ENTRIES, "withdraw 0 = 2", "withdraw 2 = 1", "withdraw 2 = STATE",
        "withdraw 1 = 0", "withdraw 1 = STATE", "many 3 = 0", "at 0 = INDEX", "ofLand 1 2 = 90",
        "enter 1 101 2 9 = 0", "ofLand 1 2 = 80", "ofSong 1 1 = 9", "withdraw 1 = 0");
    Scene eight = Scenes.songs(Scenes.lands(8), 0, 1, 2, 3, 4, 5, 6, 7);
    BOUNDS.row(eight, "withdraw 8 = INDEX", "withdraw 7 = 7", "at 6 = 6", "at 7 = INDEX",
        "withdraw 0 = 6", "at 0 = 1", "enter 0 100 1 0 = 0", "at 6 = 0", "enter 7 101 1 0 = 0",
        "at 7 = 7");
    BOUNDS.row(eight, "ranked 7 = 7", "withdraw 0 = 7", "ranked 0 = 1", "ranked 6 = 7",
        "ranked 7 = INDEX", "ofSong 7 8 = 6", "without 0 = 1");
  }

  // ---- promise 6: move

  private static void promise6Lands() {
    BOUNDS.outside(Scenes.ENTRIES, "move # 0", 0, 3, INDEX);
    BOUNDS.outside(Scenes.lands(8), "move # 0", 0, 7, INDEX);
    refused(Scenes.ENTRIES, "move 3 0", STATE);
    refused(Scenes.ENTRIES, "move 3 2", STATE);
    refused(Scenes.ENTRIES, "move 4 -1", INDEX);
    refused(Scenes.ENTRIES, "move -1 3", INDEX);
    refused(Scenes.ENTRIES, "move 3 3", ARGUMENT);
    refused(Scenes.ENTRIES, "move 3 -1", ARGUMENT);
  }

  /** 0 1 | 2 with the props 5 4 | 3; the other half begins at the place 2. */
  private static void promise6Places() {
    BOUNDS.outside(Scenes.ENTRIES, "move 0 #", 0, 2, ARGUMENT);
    BOUNDS.outside(Scenes.ENTRIES, "move 2 #", 0, 2, ARGUMENT);
    BOUNDS.row(Scenes.ENTRIES, "move 0 0 = 4", "move 2 2 = 4", "move 1 1 = 4", "move 0 1 = 5",
        "at 0 = 1", "at 1 = 0", "at 2 = 2", "move 0 0 = 4", "at 0 = 0");
    refused(Scenes.ENTRIES, "move 0 2", STATE);
    refused(Scenes.ENTRIES, "move 1 2", STATE);
    refused(Scenes.ENTRIES, "move 2 1", STATE);
    refused(Scenes.ENTRIES, "move 2 0", STATE);
    Scene eight = Scenes.songs(Scenes.lands(8), 0, 1, 2, 3, 4, 5, 6, 7);
    BOUNDS.outside(eight, "move 0 #", 0, 7, ARGUMENT);
    BOUNDS.row(eight, "move 0 7 = 0", "at 7 = 0", "at 0 = 1", "move 7 0 = 0", "at 0 = 7", "at 1 = 1");
  }

  private static void promise6FewSongs() {
    refused(Scenes.LANDS, "move 0 0", ARGUMENT);
    refused(Scenes.LANDS, "move 0 -1", ARGUMENT);
    refused(Scenes.LANDS, "move 4 0", INDEX);
    Scene first = Scenes.LANDS.then("enter 0 100 1 9");
    BOUNDS.outside(first, "move 0 #", 0, 0, ARGUMENT);
    BOUNDS.unchanged(first, "move 0 0", 0);
    // All songs are of the half 1: it begins at the place 0.
    Scene second = Scenes.LANDS.then("enter 0 101 1 9; enter 2 101 1 8");
    BOUNDS.row(second, "move 2 0 = 11", "at 0 = 2", "move 2 1 = 11", "at 0 = 0", "move 0 2 = ARGUMENT");
  }

  private static void promise6Phases() {
    refusedBut("move 0 1", STATE, 0, 1);
    refusedBut("move 0 0", STATE, 0, 1);
    BOUNDS.row(Scenes.ENTRIES, "move 0 1 = 5");
    BOUNDS.row(Scenes.VOTES, "move 0 1 = 5", "at 0 = 1");
    refusedBut("move 0 3", ARGUMENT);
    refusedBut("move 3 -1", ARGUMENT);
    refusedBut("move 4 3", INDEX);
    refused(Scenes.SECOND_YEAR, "move 0 0", ARGUMENT);
    refused(Scenes.VOTES, "move 0 2", STATE);
    refused(Scenes.VOTES, "move 3 0", STATE);
    BOUNDS.row(Scenes.VOTES.then("disqualify 0"), "move 0 1 = 5", "at 1 = 0", "move 0 0 = 4");
  }

  /** What PROPS of both together are above 6. */
  private static void promise6Delay() {
    Scene lands = Scenes.lands(3);
    BOUNDS.row(lands, "many 5 = 0", "enter 0 100 1 9 = 0", "many 5 = 0");
    BOUNDS.row(lands.then("enter 0 100 1 0; enter 2 100 1 0"), "move 0 0 = 0", "move 0 1 = 0");
    BOUNDS.row(lands.then("enter 0 100 1 2; enter 2 100 1 3"), "move 0 1 = 0");
    BOUNDS.row(lands.then("enter 0 100 1 2; enter 2 100 1 4"), "move 0 1 = 0");
    BOUNDS.row(lands.then("enter 0 100 1 3; enter 2 100 1 4"), "move 0 1 = 1");
    BOUNDS.row(lands.then("enter 0 100 1 9; enter 2 100 1 9"), "move 0 1 = 12");
    // 9 0 4 | 3: what is below 6 does not make up for what is above.
    BOUNDS.row(Scenes.lands(4).then("enter 0 100 1 9; enter 2 100 1 0; enter 1 101 1 4; enter 3 100 1 3"),
        "many 5 = 4", "move 2 2 = 7", "move 0 2 = 9");
  }

  // ---- promise 7: start

  private static void promise7() {
    refused(Scenes.LANDS, "start", STATE);
    refused(Scenes.LANDS.then("enter 0 100 1 0"), "start", STATE);
    refused(Scenes.ENTRIES.then("withdraw 0; withdraw 1"), "start", STATE);
    refused(Scenes.SECOND_YEAR, "start", STATE);
    refusedBut("start", STATE, 0);
    BOUNDS.row(Scenes.ENTRIES.then("withdraw 0"), "many 1 = 0", "start = 2", "many 1 = 1",
        "start = STATE");
    BOUNDS.row(Scenes.songs(Scenes.lands(8), 0, 1, 2, 3, 4, 5, 6, 7), "start = 8", "many 1 = 1");
  }
}
