/** The boundary cases of the sentences of "Terms", where the promises 18 to 23 ask for them. */
public final class TermsBoundsTest {
  private static final Bounds BOUNDS = new Bounds("TermsBoundsTest");

  private TermsBoundsTest() {}

  public static void main(String[] args) {
    weights();
    allFull();
    ballotsOutOfOrder();
    voidByBallots();
    borrowedSums();
    borrowedNotPoints();
    sumOfNothing();
    outlierBallots();
    outlierDistances();
    outlierDisqualified();
    outlierOfItsLand();
    outlierSmallest();
    outlierOnce();
    pairBallots();
    pairOutlier();
    outlierOfPair();
    pairFirst();
    pairSides();
    pairsAtOnce();
    pairDisqualified();
    blockCallers();
    blockCalls();
    blockLimits();
    blockLeft();
    callPoints();
    callTies();
    threshold();
    thresholdCounts();
    rankedByTotal();
    rankedByCallPoints();
    rankedByLands();
    rankedByTwelves();
    rankedByOrder();
    lines();
    money();
    BOUNDS.finish();
  }

  /** The songs 0 to songs - 1 of as many lands; one land more votes for all of them. */
  private static Scene voter(int songs) {
    int[] all = new int[songs];
    for (int song = 0; song < songs; song++) {
      all[song] = song;
    }
    return Scenes.songs(Scenes.lands(songs + 1).then("rules 180 6 10 0 false"), all).then("start");
  }

  // ---- WEIGHTS and BALLOTS

  /** 12, 10, 8, 7, 6, 5, 4: all the places that there can be. */
  private static void weights() {
    BOUNDS.row(voter(7).then(Scenes.jurors(7, 2, 0)), "gives 7 0 true = 12", "gives 7 1 true = 10",
        "gives 7 2 true = 8", "gives 7 3 true = 7", "gives 7 4 true = 6", "gives 7 5 true = 5",
        "gives 7 6 true = 4");
    StringBuilder calls = new StringBuilder();
    for (int song = 0; song < 7; song++) {
      calls.append("call 7 0 ").append(song).append(" 1; ");
    }
    BOUNDS.row(voter(7).then(calls.toString()), "gives 7 0 false = 12", "gives 7 1 false = 10",
        "gives 7 2 false = 8", "gives 7 3 false = 7", "gives 7 4 false = 6", "gives 7 5 false = 5",
        "gives 7 6 false = 4");
  }

  /** 8 LANDS with SONGS, all JURORS and CALLERS of all of them, of LIMIT 1: all by numbers. */
  private static void allFull() {
    int[] all = {0, 1, 2, 3, 4, 5, 6, 7};
    Scene full = Scenes.songs(Scenes.lands(8).then("rules 180 6 1 10 true"), all).then("start");
    for (int land = 0; land < 8; land++) {
      full = full.then(Scenes.jurors(land, 5, 0));
      // Two callers for each of three songs, one for each of the four others: no block.
      int[] callers = {0, 0, 1, 1, 2, 2, 3, 4, 5, 6};
      for (int caller = 0; caller < 10; caller++) {
        int song = callers[caller] + (callers[caller] >= land ? 1 : 0);
        full = full.then("call " + land + " " + caller + " " + song + " 1");
      }
    }
    // Land 0 and land 1 have each other first by all 5 jurors: a pair, by the sums of the others.
    BOUNDS.row(full, "many 6 = 2", "ofLand 7 3 = 5", "ofLand 7 4 = -1", "ofLand 0 5 = 1",
        "ofLand 1 5 = 1", "ofLand 7 6 = 10", "gives 0 1 true = 12", "gives 1 0 true = 12",
        "gives 0 7 true = 4", "gives 7 6 true = 4", "gives 7 6 false = 4", "gives 7 0 false = 12",
        "call 7 9 0 1 = 0", "ofSong 0 5 = 84", "ofSong 0 6 = 84", "ofSong 0 7 = 168", "ofSong 7 5 = 28",
        "ofSong 7 6 = 28", "ofSong 7 7 = 56", "ofSong 7 8 = 7", "ofSong 1 7 = 144",
        "meanTotal = 104.0", "close = 2", "isOpen = true", "nextRead = 0");
  }

  /** What is DISQUALIFIED later is taken out of a BALLOT: the others move up. */
  private static void ballotsOutOfOrder() {
    // (3 2 1 0), which is the order number 23; without its first, then without its last one.
    Scene scene = voter(4).then(Scenes.jurors(4, 2, 23));
    BOUNDS.row(scene, "gives 4 3 true = 12", "gives 4 0 true = 7", "disqualify 3 = 3",
        "gives 4 2 true = 12", "gives 4 1 true = 10", "gives 4 0 true = 8", "gives 4 3 true = 0",
        "disqualify 0 = 2", "gives 4 2 true = 12", "gives 4 1 true = 10", "gives 4 0 true = 0",
        "ofLand 4 3 = 2");
    BOUNDS.row(scene, "disqualify 1 = 3", "gives 4 3 true = 12", "gives 4 2 true = 10",
        "gives 4 0 true = 8");
    // (3 2 0 1) and (1 0 2 3): 18 19 18 19; without 3 they are (2 0 1) and (1 0 2), 20 each.
    Scene last = Scenes.songs(Scenes.lands(8), 0, 1, 2, 3).then("start; jury 7 3 22; jury 7 4 6");
    BOUNDS.row(last, "gives 7 1 true = 12", "gives 7 3 true = 10", "gives 7 0 true = 8",
        "gives 7 2 true = 7", "disqualify 3 = 3", "gives 7 0 true = 12", "gives 7 1 true = 10",
        "gives 7 2 true = 8");
    // The same of land 0 with 1 2 3 4: (4 3 1 2) and (2 1 3 4).
    Scene first = Scenes.songs(Scenes.lands(8), 0, 1, 2, 3, 4).then("start; jury 0 0 22; jury 0 1 6");
    BOUNDS.row(first, "gives 0 2 true = 12", "gives 0 4 true = 10", "disqualify 4 = 4",
        "gives 0 1 true = 12", "gives 0 2 true = 10", "gives 0 3 true = 8");
  }

  // ---- VOID

  /** VOID with fewer than 2 BALLOTS. */
  private static void voidByBallots() {
    BOUNDS.row(voter(3), "ofLand 3 5 = 1", "jury 3 4 0 = 0", "ofLand 3 5 = 1", "gives 3 0 true = 0",
        "jury 3 4 5 = 2", "ofLand 3 5 = 1", "jury 3 0 5 = 2", "ofLand 3 5 = 0", "gives 3 2 true = 12");
  }

  /** In place of a JURY that is VOID: the SUMS of those of the same POT that are not. */
  private static void borrowedSums() {
    String lands = "land 0 0; land 0 0; land 0 0; land 1 0; ";
    Scene scene = Scenes.songs(Scene.of(lands), 0, 1, 2).then("start; ");
    // One ballot of land 0 is lent to nobody, and not taken by land 0; land 3 is of another pot.
    BOUNDS.row(scene.then("jury 0 0 0"), "gives 0 1 true = 0", "gives 1 2 true = 0",
        "gives 2 1 true = 0", "gives 3 1 true = 0");
    BOUNDS.row(scene.then(Scenes.jurors(0, 2, 0)), "gives 0 1 true = 12", "gives 0 2 true = 10",
        "gives 1 2 true = 12", "gives 2 1 true = 12", "gives 3 1 true = 0", "gives 3 2 true = 0");
    // Its own single ballot (2 0) does not change that: 2 by the sums of 0 alone.
    BOUNDS.row(scene.then(Scenes.jurors(0, 2, 0) + "jury 1 0 0"), "gives 1 2 true = 12",
        "gives 1 0 true = 0", "ofLand 1 5 = 1");
    // Land 3 does not lend to the pot 0.
    BOUNDS.row(scene.then(Scenes.jurors(3, 2, 0)), "gives 3 0 true = 12", "gives 0 1 true = 0",
        "gives 1 0 true = 0");
    // Of two: land 0 (1 2) and land 1 (2 0): 1 has 24, 2 has 20 and 24, 0 has 20; land 2 has no 2.
    BOUNDS.row(scene.then(Scenes.jurors(0, 2, 0) + Scenes.jurors(1, 2, 1)), "gives 2 1 true = 12",
        "gives 2 0 true = 10", "gives 0 1 true = 12", "gives 1 2 true = 12", "gives 1 0 true = 10");
  }

  /** By the SUMS of the other JURIES, not by the points that they give. */
  private static void borrowedNotPoints() {
    // Land 3: (2 1 0) five times, land 4: (0 1 2) twice: 76, 70 and 64 of 2, 1, 0, but 20 points each.
    Scene scene = Scenes.songs(Scene.of("land 3 0; land 3 0; land 3 0; land 0 0; land 0 0; land 0 0"),
        0, 1, 2).then("start; " + Scenes.jurors(3, 5, 5) + Scenes.jurors(4, 2, 0));
    BOUNDS.row(scene, "gives 5 2 true = 12", "gives 5 1 true = 10", "gives 5 0 true = 8",
        "jury 5 0 0 = 0", "gives 5 2 true = 12", "jury 5 1 0 = 0", "gives 5 2 true = 8");
  }

  /** Nothing with a SUM of 0, though there is a place and a WEIGHT for it. */
  private static void sumOfNothing() {
    Scene scene = Scenes.songs(Scenes.lands(4), 0, 1, 2, 3).then("start; " + Scenes.jurors(0, 2, 0));
    // Land 1 by the sums of 0: 2 has 20, 3 has 16, 0 has nothing.
    BOUNDS.row(scene, "gives 1 2 true = 12", "gives 1 3 true = 10", "gives 1 0 true = 0",
        "gives 3 1 true = 12", "gives 3 2 true = 10", "gives 3 0 true = 0");
  }

  // ---- OUTLIER

  /** With 3 BALLOTS or more. */
  private static void outlierBallots() {
    // (0 1 2 3 4) and (4 3 2 1 0): the order 0 4 1 3 2, distances 6 and 10.
    BOUNDS.row(voter(5).then("jury 5 1 0; jury 5 3 119"), "ofLand 5 4 = -1", "gives 5 4 true = 10",
        "jury 5 4 0 = 0", "ofLand 5 4 = 3", "gives 5 1 true = 10", "gives 5 4 true = 6",
        "jury 5 4 119 = 4", "ofLand 5 4 = 1", "gives 5 4 true = 12");
  }

  /** Of 4 equal ballots (0 1 2 and so on) and one more: whether that is too far. */
  private static void outlier(int songs, int n, int want) {
    BOUNDS.row(voter(songs).then(Scenes.jurors(songs, 4, 0) + "jury " + songs + " 4 " + n),
        "ofLand " + songs + " 4 = " + want);
  }

  /** If it is above the half of 3 times the number of CANDIDATES. */
  private static void outlierDistances() {
    // 1: 1.5, 2: 3, 3: 4.5; the farthest orders have 0, 2 and 4.
    BOUNDS.row(Scenes.voting(2).then(Scenes.jurors(0, 5, 0)), "ofLand 0 4 = -1");
    outlier(2, 1, -1);
    outlier(3, 5, -1);
    // 4: 6. (3 1 2 0) has 6, (3 2 1 0) has 8.
    outlier(4, 21, -1);
    outlier(4, 23, 4);
    // 5: 7.5. (3 1 2 0 4) has 6, (4 1 2 3 0) has 8.
    outlier(5, 80, -1);
    outlier(5, 105, 4);
    // 6: 9. (4 1 2 3 0 5) has 8, (5 1 2 3 4 0) has 10.
    outlier(6, 512, -1);
    outlier(6, 633, 4);
    // 7: 10.5. (5 1 2 3 4 0 6) has 10, (6 1 2 3 4 5 0) has 12.
    outlier(7, 3752, -1);
    outlier(7, 4473, 4);
  }

  /** By the CANDIDATES of now: the half of 3 times their number changes, and so do the DISTANCES. */
  private static void outlierDisqualified() {
    // (4 1 2 3 0 5) has 8, not above 9; (4 1 2 3 0) has 8, above 7.5.
    BOUNDS.row(voter(6).then(Scenes.jurors(6, 4, 0) + "jury 6 4 512"), "ofLand 6 4 = -1",
        "disqualify 5 = 5", "ofLand 6 4 = 4", "close = 6", "ofLand 6 4 = 4");
    // (3 2 1 0) has 8, above 6; (3 2 1) has 4, not above 4.5.
    BOUNDS.row(voter(4).then(Scenes.jurors(4, 4, 0) + "jury 4 4 23"), "ofLand 4 4 = 4",
        "disqualify 0 = 3", "ofLand 4 4 = -1", "close = 4", "disqualify 1 = 2", "ofLand 4 4 = -1");
  }

  /** By the order of the LAND itself: two lands vote against one another. */
  private static void outlierOfItsLand() {
    // Land 6: (4 3 2 1 0) three times and (4 0 2 1 3), so 4 3 2 0 1, and a distance of 6.
    Scene scene = Scenes.songs(Scenes.lands(7), 0, 1, 2, 3, 4).then("start; " + Scenes.jurors(5, 3, 0)
        + Scenes.jurors(6, 3, 119) + "jury 6 3 98");
    BOUNDS.row(scene, "ofLand 5 4 = -1", "ofLand 6 4 = -1", "gives 6 0 true = 7", "gives 6 1 true = 6");
  }

  /** Of several the smallest JUROR. */
  private static void outlierSmallest() {
    Scene scene = voter(5).then(Scenes.jurors(5, 3, 0));
    BOUNDS.row(scene, "jury 5 4 119 = 4", "ofLand 5 4 = 4", "jury 5 3 119 = 4", "ofLand 5 4 = 3");
    // The farther one, though of a greater number: (4 1 2 3 0) of 3, (4 3 2 1 0) of 4.
    BOUNDS.row(scene, "jury 5 3 105 = 4", "jury 5 4 119 = 4", "ofLand 5 4 = 4", "jury 5 3 119 = 4",
        "jury 5 4 105 = 4", "ofLand 5 4 = 3");
  }

  /** SUMS and the order are found anew once: a second one that is too far counts. */
  private static void outlierOnce() {
    // (0 1 2 3) twice, (0 1 3 2), (2 3 0 1), (3 2 1 0): the sums 51 45 45 44, two distances of 8.
    // Without juror 3 they are 43 38 33 34, and juror 4 has 8 again; without 4, 2 were ahead of 3.
    BOUNDS.row(voter(4).then("jury 4 0 0; jury 4 1 0; jury 4 2 1; jury 4 3 16; jury 4 4 23"),
        "ofLand 4 4 = 3", "gives 4 0 true = 12", "gives 4 1 true = 10", "gives 4 3 true = 8",
        "gives 4 2 true = 7", "ofLand 4 3 = 5");
  }

  // ---- PAIRS

  private static Scene audit(int lands) {
    int[] all = new int[lands];
    for (int land = 0; land < lands; land++) {
      all[land] = land;
    }
    return Scenes.songs(Scenes.lands(lands).then("rules 180 6 10 0 true"), all).then("start");
  }

  /** With 3 BALLOTS or more that COUNT and have that SONG first. */
  private static void pairBallots() {
    // The lands 2 and 3 are void without ballots.
    BOUNDS.row(audit(4).then(Scenes.jurors(0, 3, 0) + Scenes.jurors(1, 2, 0)), "many 6 = 2",
        "ofLand 1 5 = 0", "jury 1 4 0 = 0", "many 6 = 4", "ofLand 0 5 = 1", "ofLand 1 5 = 1",
        "jury 0 2 2 = 2", "many 6 = 2", "jury 0 4 1 = 1", "many 6 = 4");
    // 0 is first on two ballots of three, and by the order.
    BOUNDS.row(audit(4).then(Scenes.jurors(0, 5, 0) + Scenes.jurors(1, 2, 0) + "jury 1 2 2"),
        "gives 1 0 true = 12", "many 6 = 2", "jury 1 3 1 = 0", "many 6 = 4");
    // The same with (2 1 3) twice and (1 2 3), of land 0.
    BOUNDS.row(audit(4).then(Scenes.jurors(2, 5, 0) + Scenes.jurors(0, 2, 2) + "jury 0 2 0"),
        "gives 0 2 true = 12", "many 6 = 2", "jury 0 3 3 = 2", "many 6 = 4");
  }

  /** A BALLOT that is an OUTLIER does not COUNT, though it has that SONG first. */
  private static void pairOutlier() {
    // Land 0: (1 2 3 4 5) twice and (1 5 4 3 2), with a distance of 8, above 7.5.
    BOUNDS.row(audit(6).then(Scenes.jurors(0, 2, 0) + "jury 0 2 23; " + Scenes.jurors(1, 3, 0)),
        "ofLand 0 4 = 2", "gives 0 1 true = 12", "many 6 = 4", "jury 0 3 0 = 1", "ofLand 0 4 = 2",
        "many 6 = 6");
  }

  /** With 3 BALLOTS or more there is an OUTLIER, whether the JURY is VOID by a PAIR or not. */
  private static void outlierOfPair() {
    // Land 0: (1 2 3 4) three times and (4 3 2 1), with a distance of 8, above 6.
    BOUNDS.row(audit(5).then(Scenes.jurors(0, 3, 0) + "jury 0 4 23; " + Scenes.jurors(1, 2, 0)),
        "ofLand 0 4 = 4", "ofLand 0 5 = 0", "jury 1 2 0 = 0", "ofLand 0 5 = 1", "ofLand 0 4 = 4",
        "ofLand 1 4 = -1", "close = 5", "ofLand 0 4 = 4", "ofLand 0 3 = 4");
  }

  /** By its order: 3 ballots have 0 first, but 2 has the greater sum, 54 to 50. */
  private static void pairFirst() {
    Scene scene = audit(5).then(Scenes.jurors(0, 3, 0) + Scenes.jurors(1, 3, 0)
        + "jury 1 3 9; jury 1 4 9");
    BOUNDS.row(scene, "ofLand 1 4 = -1", "gives 1 2 true = 12", "gives 1 0 true = 10", "many 6 = 3",
        "jury 1 4 0 = 0", "gives 1 0 true = 0", "many 6 = 5");
  }

  /** Each one's JURY has the other's SONG first. */
  private static void pairSides() {
    // 0 praises 1, 1 praises 2, 2 praises 0.
    BOUNDS.row(audit(3).then(Scenes.jurors(0, 3, 0) + Scenes.jurors(1, 3, 1) + Scenes.jurors(2, 3, 0)),
        "many 6 = 0", "jury 2 0 1 = 1", "jury 2 1 1 = 1", "jury 2 2 1 = 1", "many 6 = 2",
        "ofLand 0 5 = 0", "ofLand 1 5 = 1", "ofLand 2 5 = 1");
    // Not without audit.
    BOUNDS.row(Scenes.voting(2).then(Scenes.jurors(0, 5, 0) + Scenes.jurors(1, 5, 0)), "many 6 = 0");
    BOUNDS.row(audit(2).then(Scenes.jurors(0, 5, 0) + Scenes.jurors(1, 5, 0)), "many 6 = 2");
    // A land without a song has no pair.
    BOUNDS.row(Scenes.songs(Scenes.lands(3).then("rules 180 6 10 0 true"), 0, 1).then("start; "
        + Scenes.jurors(2, 5, 0) + Scenes.jurors(0, 5, 0)), "many 6 = 1", "ofLand 2 5 = 0");
  }

  /** All PAIRS are found ahead of that. */
  private static void pairsAtOnce() {
    BOUNDS.row(audit(4).then(Scenes.jurors(0, 3, 0) + Scenes.jurors(1, 3, 0) + Scenes.jurors(2, 3, 4)
        + Scenes.jurors(3, 3, 4)), "many 6 = 4", "gives 0 1 true = 0", "gives 3 2 true = 0");
  }

  /** By the CANDIDATES of now: without 1, land 0 has 2 first. */
  private static void pairDisqualified() {
    BOUNDS.row(audit(4).then(Scenes.jurors(0, 3, 0) + Scenes.jurors(1, 3, 0)), "many 6 = 4",
        "disqualify 1 = 3", "many 6 = 2", "ofLand 0 5 = 0", "gives 0 2 true = 12");
    // (1 2 3) of land 0 and (1 0 3) of land 2: a pair as soon as 1 is out.
    BOUNDS.row(audit(4).then(Scenes.jurors(0, 3, 0) + Scenes.jurors(2, 3, 2)), "many 6 = 2",
        "disqualify 1 = 3", "many 6 = 4");
  }

  // ---- BLOCKS

  /** 3 CALLERS or more. */
  private static void blockCallers() {
    BOUNDS.row(voter(3).then(Scenes.callers(3, 0, 2, 1, 10)), "ofLand 3 7 = 0", "ofLand 3 6 = 20",
        "gives 3 1 false = 12", "call 3 9 1 10 = 10", "ofLand 3 7 = 3", "ofLand 3 6 = 0",
        "gives 3 1 false = 0", "call 3 5 1 99 = 10", "ofLand 3 7 = 4", "ofLand 3 6 = 0");
    BOUNDS.row(voter(3).then(Scenes.callers(3, 0, 10, 2, 10)), "ofLand 3 7 = 10", "ofLand 3 6 = 0");
    // Of one land.
    BOUNDS.row(voter(3).then("call 3 0 1 10; call 3 1 1 10; call 2 2 1 10; call 0 3 1 10"),
        "ofLand 3 7 = 0", "ofLand 2 7 = 0", "ofLand 0 7 = 0", "ofLand 3 6 = 20");
  }

  /** Each one has LIMIT calls, all for the same SONG. */
  private static void blockCalls() {
    Scene two = voter(3).then(Scenes.callers(3, 0, 2, 1, 10));
    BOUNDS.row(two, "call 3 2 1 9 = 9", "ofLand 3 7 = 0", "ofLand 3 6 = 29", "call 3 2 1 1 = 1",
        "ofLand 3 7 = 3", "ofLand 3 6 = 0");
    BOUNDS.row(two, "call 3 2 1 9 = 9", "call 3 2 0 1 = 1", "call 3 2 1 1 = 0", "ofLand 3 7 = 0",
        "ofLand 3 6 = 30");
    BOUNDS.row(two, "call 3 2 0 10 = 10", "ofLand 3 7 = 0", "call 3 3 0 10 = 10", "ofLand 3 7 = 0",
        "call 3 4 0 10 = 10", "ofLand 3 7 = 3", "gives 3 1 false = 12", "gives 3 0 false = 0",
        "call 3 5 1 10 = 10", "ofLand 3 7 = 6", "ofLand 3 6 = 0");
  }

  private static Scene ofLimit(int limit) {
    return Scenes.songs(Scenes.lands(3).then("rules 180 6 " + limit + " 0 false"), 0, 1).then("start");
  }

  private static void blockLimits() {
    BOUNDS.row(ofLimit(1), "call 2 0 1 1 = 1", "call 2 1 1 1 = 1", "ofLand 2 6 = 2", "call 2 2 1 1 = 1",
        "ofLand 2 7 = 3", "ofLand 2 6 = 0");
    BOUNDS.row(ofLimit(20).then(Scenes.callers(2, 0, 3, 1, 19)), "ofLand 2 7 = 0", "ofLand 2 6 = 57",
        "call 2 0 1 1 = 1", "call 2 1 1 1 = 1", "ofLand 2 7 = 0", "ofLand 2 6 = 59",
        "call 2 2 1 1 = 1", "ofLand 2 7 = 3", "ofLand 2 6 = 0");
  }

  /** Calls beside a block count, and its callers have no more calls. */
  private static void blockLeft() {
    BOUNDS.row(voter(3).then(Scenes.callers(3, 0, 3, 1, 10) + "call 3 3 1 9"), "ofLand 3 6 = 9",
        "gives 3 1 false = 12", "needCalls 3 1 = 0", "needCalls 3 0 = 9", "needCalls 3 2 = 10",
        "call 3 0 0 1 = 0", "call 3 3 1 1 = 1", "ofLand 3 7 = 4", "ofLand 3 6 = 0",
        "needCalls 3 1 = 1", "needCalls 3 2 = 1");
    // For a song that is disqualified, too.
    BOUNDS.row(voter(3).then(Scenes.callers(3, 0, 3, 1, 10) + "call 3 3 0 1"), "disqualify 1 = 2",
        "ofLand 3 7 = 3", "ofLand 3 6 = 1", "call 3 0 0 1 = 0");
  }

  // ---- CALL POINTS

  /** By calls, the greater number first; nothing with no calls. */
  private static void callPoints() {
    BOUNDS.row(voter(3), "gives 3 0 false = 0", "call 3 0 1 2 = 2", "gives 3 1 false = 12",
        "gives 3 0 false = 0", "call 3 1 2 3 = 3", "gives 3 2 false = 12", "gives 3 1 false = 10",
        "gives 3 0 false = 0", "call 3 2 1 1 = 1", "gives 3 1 false = 12", "gives 3 2 false = 10");
    // 11 calls of 2 callers are more than 10 of 10 callers.
    BOUNDS.row(voter(3).then(Scenes.callers(3, 0, 9, 1, 1) + "call 3 9 1 1; call 3 9 2 9; call 3 8 2 2"),
        "ofLand 3 6 = 21", "gives 3 2 false = 12", "gives 3 1 false = 10", "gives 3 0 false = 0");
  }

  /** Of the same by how many CALLERS they are of, more first, then by the smaller number. */
  private static void callTies() {
    BOUNDS.row(voter(3).then("call 3 0 0 2; call 3 1 1 1; call 3 2 1 1"), "gives 3 1 false = 12",
        "gives 3 0 false = 10", "call 3 1 2 1 = 1", "call 3 2 2 1 = 1", "gives 3 1 false = 12",
        "gives 3 2 false = 10", "gives 3 0 false = 8");
    BOUNDS.row(voter(3).then("call 3 0 2 1; call 3 1 1 1; call 3 2 0 1"), "gives 3 0 false = 12",
        "gives 3 1 false = 10", "gives 3 2 false = 8");
    // The callers of calls that count: those of a block do not.
    BOUNDS.row(voter(3).then(Scenes.callers(3, 0, 3, 2, 10) + "call 3 3 2 2; call 3 4 1 1; call 3 5 1 1"),
        "gives 3 1 false = 12", "gives 3 2 false = 10");
  }

  private static Scene ofThreshold(int threshold) {
    return Scenes.songs(Scenes.lands(4).then("rules 180 6 3 " + threshold + " false"), 0, 1, 2)
        .then("start; " + Scenes.jurors(3, 2, 0));
  }

  /** With fewer calls than THRESHOLD, they are like its JURY POINTS. */
  private static void threshold() {
    BOUNDS.row(ofThreshold(0), "gives 3 0 false = 0", "call 3 0 2 1 = 1", "gives 3 2 false = 12",
        "gives 3 0 false = 0");
    BOUNDS.row(ofThreshold(1), "gives 3 0 false = 12", "gives 3 1 false = 10", "gives 3 2 false = 8",
        "gives 3 3 false = INDEX", "call 3 0 2 1 = 1", "gives 3 2 false = 12", "gives 3 0 false = 0",
        "gives 3 1 false = 0");
    BOUNDS.row(ofThreshold(5), "call 3 0 2 3 = 3", "call 3 1 2 1 = 1", "gives 3 0 false = 12",
        "gives 3 2 false = 8", "call 3 2 1 1 = 1", "gives 3 2 false = 12", "gives 3 1 false = 10",
        "gives 3 0 false = 0");
    // A jury that is void: as by the sums of its pot.
    BOUNDS.row(ofThreshold(1), "gives 2 0 false = 12", "gives 2 1 false = 10");
  }

  /** Calls that COUNT, for CANDIDATES: none of a BLOCK, none for a DISQUALIFIED SONG. */
  private static void thresholdCounts() {
    BOUNDS.row(ofThreshold(4), "call 3 0 2 3 = 3", "call 3 1 2 3 = 3", "gives 3 2 false = 12",
        "call 3 2 2 3 = 3", "gives 3 2 false = 8", "call 3 3 2 2 = 2", "call 3 4 1 1 = 1",
        "ofLand 3 6 = 3", "gives 3 2 false = 8", "call 3 5 1 1 = 1", "ofLand 3 6 = 4",
        "gives 3 2 false = 10", "gives 3 1 false = 12");
    BOUNDS.row(ofThreshold(4), "call 3 0 2 3 = 3", "call 3 1 1 3 = 3", "gives 3 1 false = 12",
        "gives 3 0 false = 0", "disqualify 2 = 2", "ofLand 3 6 = 3", "gives 3 0 false = 12",
        "gives 3 1 false = 10", "call 3 2 1 1 = 1", "gives 3 1 false = 12", "gives 3 0 false = 0");
  }

  // ---- RANKED

  private static void rankedByTotal() {
    BOUNDS.row(Ties.BY_TOTAL, "ofSong 0 7 = 8", "ofSong 0 6 = 0", "ofSong 1 7 = 7", "ofSong 1 6 = 7",
        "at 0 = 1", "ranked 0 = 2", "ranked 1 = 3", "ranked 2 = 4", "ranked 3 = 0", "ranked 4 = 1");
  }

  private static void rankedByCallPoints() {
    BOUNDS.row(Ties.BY_CALL_POINTS, "ofSong 0 7 = 22", "ofSong 1 7 = 22", "ofSong 0 6 = 10",
        "ofSong 1 6 = 12", "ranked 0 = 1", "ranked 1 = 0");
    BOUNDS.row(Ties.BY_ONE_CALL_POINT, "ofSong 0 7 = 25", "ofSong 7 7 = 25", "ofSong 6 7 = 25",
        "ofSong 0 6 = 18", "ofSong 7 6 = 17", "ofSong 6 6 = 21", "at 0 = 7", "ranked 4 = 4",
        "ranked 5 = 6", "ranked 6 = 0", "ranked 7 = 7");
  }

  private static void rankedByLands() {
    BOUNDS.row(Ties.BY_LANDS, "ofSong 0 7 = 24", "ofSong 1 7 = 24", "ofSong 0 6 = 24",
        "ofSong 1 6 = 24", "ofSong 2 7 = 22", "at 0 = 1", "ranked 0 = 0", "ranked 1 = 1");
    BOUNDS.row(Ties.BY_ONE_LAND, "ofSong 0 7 = 60", "ofSong 1 7 = 60", "ofSong 0 6 = 60",
        "ofSong 1 6 = 60", "at 0 = 1", "ranked 0 = 0", "ranked 1 = 1", "ranked 2 = 2");
  }

  private static void rankedByTwelves() {
    BOUNDS.row(Ties.BY_TWELVES, "ofSong 0 7 = 20", "ofSong 3 7 = 20", "ofSong 1 7 = 12", "at 0 = 0",
        "at 3 = 3", "ranked 0 = 3", "ranked 1 = 0", "ranked 2 = 1", "ranked 3 = 2");
  }

  private static void rankedByOrder() {
    BOUNDS.row(Ties.BY_ORDER, "ranked 0 = 2", "ranked 1 = 1", "ranked 2 = 0", "move 0 1 = 0",
        "ranked 1 = 0", "ranked 2 = 1");
    BOUNDS.row(Scenes.voting(8), "ranked 0 = 0", "ranked 7 = 7", "move 7 0 = 0", "ranked 0 = 7",
        "ranked 1 = 0", "ranked 7 = 6");
  }

  // ---- READING, MONEY

  /** A LAND whose LINE FAILED can not be READ, until another one is; then all LINES are well. */
  private static void lines() {
    BOUNDS.row(Scenes.voting(4).then("close"), "fail 0 = 3", "fail 1 = 2", "read 0 = STATE",
        "read 1 = STATE", "read 2 = -1", "read 0 = -1", "read 1 = -1", "read 3 = -1");
    BOUNDS.row(Scenes.voting(4).then("close; fail 0; fail 1; read 2"), "fail 3 = 2", "fail 0 = 1",
        "fail 1 = STATE", "read 3 = STATE", "read 1 = -1", "read 3 = -1", "read 0 = -1");
  }

  /** 100 at first; it can be below 0, by a FEE and for a HOST. */
  private static void money() {
    Scene poor = Scenes.lands(2).then("enter 0 1 1 0; withdraw 0; ".repeat(9)
        + "enter 0 100 1 0; enter 1 100 1 0; start; close; read 0; read 1; readCalls; readCalls");
    BOUNDS.row(poor, "ofLand 0 2 = 0", "end = 0", "many 9 = 0", "ofLand 0 2 = -10", "next = 1",
        "enter 0 100 1 0 = 1", "ofLand 0 2 = -20");
  }
}
