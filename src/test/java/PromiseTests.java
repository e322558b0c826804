/** For each promise of the document, answers that were found by hand. */
public final class PromiseTests {
  private static final Check CHECK = new Check("PromiseTests");
  private static final int NONE = -1;

  private PromiseTests() {}

  public static void main(String[] args) {
    promise1();
    promise2();
    promise3();
    promise4();
    promise5();
    promise6();
    promise7();
    promise8();
    promise8Orders();
    promise9();
    promise10();
    promise10AtOnce();
    promise11();
    promise12();
    promise13();
    promise14();
    promise15();
    promise16();
    promise17();
    promise17LastYear();
    promise18();
    promise18Outliers();
    promise18Pairs();
    promise18Blocks();
    promise19();
    promise20Juries();
    promise20VoidJuries();
    promise20Calls();
    promise21();
    promise22();
    promise23();
    promise24();
    promise25();
    promise26();
    promise27();
    promise28();
    promise29();
    promise30();
    CHECK.finish();
  }

  // ---- contests to begin with

  /** Lands with these pots and 999 beds. */
  private static Songnations lands(int... pots) {
    Songnations x = new Songnations();
    for (int pot : pots) {
      x.land(pot, 999);
    }
    return x;
  }

  /** Songs of the lands of these numbers, all of half 0 in the year 0, without props. */
  private static void songs(Songnations x, int... lands) {
    for (int land : lands) {
      x.enter(land, 100 + land % 2, 1, 0);
    }
  }

  /** Four lands of four pots, each with a song, no threshold, in the phase 1. */
  private static Songnations four() {
    Songnations x = lands(0, 1, 2, 3);
    x.rules(180, 6, 10, 0, false);
    songs(x, 0, 1, 2, 3);
    x.start();
    return x;
  }

  /** So many jurors of a land, from 0, give this ballot. */
  private static void same(Songnations x, int land, int jurors, int n) {
    for (int juror = 0; juror < jurors; juror++) {
      x.jury(land, juror, n);
    }
  }

  /** Song 0 and song 1, and three lands of other pots without songs, in the phase 1. */
  private static Songnations two() {
    Songnations x = lands(3, 3, 0, 1, 2);
    x.rules(180, 6, 10, 0, false);
    songs(x, 0, 1);
    x.start();
    return x;
  }

  private static void readAll(Songnations x) {
    for (int land = 0; land < x.many(2); land++) {
      x.read(land);
    }
    for (int song = x.many(3) - x.many(4); song > 0; song--) {
      x.readCalls();
    }
  }

  private static void points(Songnations x, int land, boolean isJury, int... want) {
    for (int song = 0; song < want.length; song++) {
      int its = song;
      CHECK.due("gives(" + land + ", " + its + ", " + isJury + ")", want[its],
          () -> x.gives(land, its, isJury));
    }
  }

  private static void ranks(Songnations x, int... want) {
    for (int rank = 0; rank < want.length; rank++) {
      int its = rank;
      CHECK.due("ranked(" + its + ")", want[its], () -> x.ranked(its));
    }
    CHECK.outOfBounds("ranked(" + want.length + ")", () -> x.ranked(want.length));
  }

  private static void order(Songnations x, int... want) {
    for (int place = 0; place < want.length; place++) {
      int its = place;
      CHECK.due("at(" + its + ")", want[its], () -> x.at(its));
    }
    CHECK.outOfBounds("at(" + want.length + ")", () -> x.at(want.length));
  }

  private static void manyAre(Songnations x, int... want) {
    for (int what = 0; what < want.length; what++) {
      int its = what;
      CHECK.due("many(" + its + ")", want[its], () -> x.many(its));
    }
  }

  // ---- the promises

  private static void promise1() {
    Songnations x = new Songnations();
    manyAre(x, 0, 0, 0, 0, 0, 0, 0, 0, 0, NONE, NONE, 0);
    CHECK.due("meanTotal() of a new one", 0.0, () -> x.meanTotal());
    CHECK.outOfBounds("ofLand(0, 0) of a new one", () -> x.ofLand(0, 0));
    new Songnations().land(0, 0);
    CHECK.due("many(2) beside another object", 0, () -> x.many(2));
  }

  private static void promise2() {
    Songnations x = new Songnations();
    CHECK.badArgument("land(-1, 0)", () -> x.land(-1, 0));
    CHECK.badArgument("land(4, 0)", () -> x.land(4, 0));
    CHECK.badArgument("land(0, -1)", () -> x.land(0, -1));
    CHECK.badArgument("land(0, 1000)", () -> x.land(0, 1000));
    CHECK.badArgument("land(far)", () -> x.land(Integer.MIN_VALUE, Integer.MAX_VALUE));
    CHECK.due("many(2) behind wrong lands", 0, () -> x.many(2));
    CHECK.due("land(0, 0)", 0, () -> x.land(0, 0));
    CHECK.due("land(3, 999)", 1, () -> x.land(3, 999));
    for (int number = 2; number < 8; number++) {
      int its = number;
      CHECK.due("land " + its, its, () -> x.land(its % 4, 10 * its));
    }
    CHECK.due("pot of 3", 3, () -> x.ofLand(3, 0));
    CHECK.due("beds of 3", 30, () -> x.ofLand(3, 1));
    CHECK.due("money of 7", 100, () -> x.ofLand(7, 2));
    CHECK.badState("a ninth land", () -> x.land(0, 0));
    CHECK.badArgument("a ninth land of a wrong pot", () -> x.land(4, 0));
    CHECK.due("many(2) behind a ninth land", 8, () -> x.many(2));
    Songnations y = two();
    CHECK.badState("land in the phase 1", () -> y.land(0, 0));
    CHECK.badArgument("wrong land in the phase 1", () -> y.land(0, 1000));
    y.close();
    CHECK.badState("land in the phase 2", () -> y.land(0, 0));
    readAll(y);
    y.end();
    CHECK.badState("land in the phase 3", () -> y.land(0, 0));
    y.next();
    CHECK.due("land in the year 1", 5, () -> y.land(0, 0));
  }

  private static void promise3() {
    Songnations x = lands(0, 0, 0);
    CHECK.badArgument("length 59", () -> x.rules(59, 1, 1, 0, false));
    CHECK.badArgument("length 301", () -> x.rules(301, 1, 1, 0, false));
    CHECK.badArgument("people 0", () -> x.rules(60, 0, 1, 0, false));
    CHECK.badArgument("people 10", () -> x.rules(60, 10, 1, 0, false));
    CHECK.badArgument("limit 0", () -> x.rules(60, 1, 0, 0, false));
    CHECK.badArgument("limit 21", () -> x.rules(60, 1, 21, 0, false));
    CHECK.badArgument("threshold -1", () -> x.rules(60, 1, 1, -1, false));
    CHECK.badArgument("threshold 100", () -> x.rules(60, 1, 1, 100, false));
    CHECK.due("the length at first", 180, () -> x.rules(300, 9, 20, 99, true));
    CHECK.due("the length told", 300, () -> x.rules(60, 1, 1, 0, false));
    CHECK.due("the length told again", 60, () -> x.rules(61, 2, 3, 2, true));
    CHECK.due("longer than told", -2, () -> x.enter(0, 62, 1, 0));
    CHECK.due("more people than told", -3, () -> x.enter(0, 61, 3, 0));
    CHECK.due("as long and as many as told", 1, () -> x.enter(0, 61, 2, 0));
    CHECK.badState("rules with a song", () -> x.rules(60, 1, 1, 0, false));
    CHECK.badArgument("wrong rules with a song", () -> x.rules(59, 1, 1, 0, false));
    x.enter(1, 60, 1, 0);
    x.start();
    CHECK.badState("rules in the phase 1", () -> x.rules(60, 1, 1, 0, false));
    CHECK.due("as many as the limit", 3, () -> x.call(2, 0, 0, 99));
    x.close();
    readAll(x);
    x.end();
    x.next();
    CHECK.due("the length stays for the next year", -2, () -> x.enter(0, 62, 1, 0));
    CHECK.due("rules in the next year", 61, () -> x.rules(300, 9, 20, 0, false));
    x.enter(0, 300, 9, 0);
    x.withdraw(0);
    CHECK.due("rules behind a withdrawal", 300, () -> x.rules(60, 1, 1, 0, false));
    Songnations y = lands(0);
    CHECK.due("181 seconds at first", -2, () -> y.enter(0, 181, 7, 0));
    CHECK.due("7 people at first", -3, () -> y.enter(0, 180, 7, 0));
    CHECK.due("180 seconds, 6 people at first", 0, () -> y.enter(0, 180, 6, 0));
  }

  private static void promise4() {
    Songnations x = lands(0, 0, 0, 0);
    CHECK.outOfBounds("land -1", () -> x.enter(-1, 1, 1, 0));
    CHECK.outOfBounds("land 4", () -> x.enter(4, 0, 0, -1));
    CHECK.badArgument("0 seconds", () -> x.enter(0, 0, 1, 0));
    CHECK.badArgument("601 seconds", () -> x.enter(0, 601, 1, 0));
    CHECK.badArgument("0 people", () -> x.enter(0, 1, 0, 0));
    CHECK.badArgument("21 people", () -> x.enter(0, 1, 21, 0));
    CHECK.badArgument("-1 props", () -> x.enter(0, 1, 1, -1));
    CHECK.badArgument("10 props", () -> x.enter(0, 1, 1, 10));
    CHECK.due("600 seconds, 20 people", -2, () -> x.enter(0, 600, 20, 9));
    CHECK.due("20 people", -3, () -> x.enter(0, 1, 20, 9));
    CHECK.due("no song, no fee", 100, () -> x.ofLand(0, 2));
    CHECK.due("no song", 0, () -> x.many(3));
    CHECK.due("land 0, 3 seconds", 1, () -> x.enter(0, 3, 1, 0));
    CHECK.due("land 1, 3 seconds", 0, () -> x.enter(1, 3, 1, 9));
    CHECK.due("land 2, 3 seconds", 1, () -> x.enter(2, 3, 1, 0));
    CHECK.due("land 3, 3 seconds", 0, () -> x.enter(3, 3, 1, 0));
    order(x, 1, 3, 0, 2);
    CHECK.due("the fee", 90, () -> x.ofLand(3, 2));
    CHECK.badState("a second song", () -> x.enter(0, 3, 1, 0));
    CHECK.badState("a second song, too long", () -> x.enter(0, 600, 20, 0));
    CHECK.badArgument("a second song, wrong", () -> x.enter(0, 601, 1, 0));
    x.start();
    CHECK.badState("a song in the phase 1", () -> x.enter(0, 3, 1, 0));
    x.close();
    readAll(x);
    x.end();
    CHECK.badState("a song in the phase 3", () -> x.enter(0, 3, 1, 0));
    x.next();
    CHECK.due("land 0, 3 seconds, the year 1", 0, () -> x.enter(0, 3, 1, 0));
    CHECK.due("land 1, 3 seconds, the year 1", 1, () -> x.enter(1, 3, 1, 0));
    x.withdraw(0);
    CHECK.due("land 0, 2 seconds, the year 1", 1, () -> x.enter(0, 2, 1, 0));
    Songnations y = lands(0);
    for (int i = 0; i < 11; i++) {
      y.enter(0, 1, 1, 0);
      y.withdraw(0);
    }
    CHECK.due("money below 0", -10, () -> y.ofLand(0, 2));
  }

  private static void promise5() {
    Songnations x = lands(0, 0, 0, 0);
    songs(x, 0, 1, 2);
    CHECK.outOfBounds("withdraw(-1)", () -> x.withdraw(-1));
    CHECK.outOfBounds("withdraw(4)", () -> x.withdraw(4));
    CHECK.badState("withdraw(3), no song", () -> x.withdraw(3));
    CHECK.due("withdraw(1)", 2, () -> x.withdraw(1));
    order(x, 0, 2);
    CHECK.badState("withdraw(1) again", () -> x.withdraw(1));
    CHECK.due("the fee is not paid back", 90, () -> x.ofLand(1, 2));
    CHECK.outOfBounds("a song withdrawn", () -> x.ofSong(1, 0));
    CHECK.due("another one", 0, () -> x.enter(1, 3, 1, 2));
    CHECK.due("another fee", 80, () -> x.ofLand(1, 2));
    order(x, 0, 2, 1);
    CHECK.due("withdraw the first", 2, () -> x.withdraw(0));
    CHECK.due("of the other half", 1, () -> x.enter(0, 3, 1, 2));
    order(x, 2, 1, 0);
    CHECK.due("withdraw of the half 1", 2, () -> x.withdraw(0));
    CHECK.due("half 0 again", 0, () -> x.enter(0, 2, 1, 2));
    order(x, 2, 1, 0);
    x.start();
    CHECK.badState("withdraw in the phase 1", () -> x.withdraw(0));
    CHECK.outOfBounds("withdraw(9) in the phase 1", () -> x.withdraw(9));
  }

  private static void promise6() {
    Songnations x = lands(0, 0, 0, 0, 0, 0);
    CHECK.badArgument("no places", () -> x.move(0, 0));
    x.enter(0, 2, 1, 5);
    x.enter(1, 1, 1, 4);
    x.enter(2, 2, 1, 9);
    x.enter(3, 2, 1, 1);
    x.enter(4, 1, 1, 8);
    // 0 1 2 | 3 4 with the props 5 4 9 | 1 8
    CHECK.due("the delay", 3 + 7 + 4 + 3, () -> x.many(5));
    CHECK.outOfBounds("move(-1, 0)", () -> x.move(-1, 0));
    CHECK.outOfBounds("move(6, 9)", () -> x.move(6, 9));
    CHECK.badArgument("place -1", () -> x.move(0, -1));
    CHECK.badArgument("place 5", () -> x.move(0, 5));
    CHECK.badArgument("place 5 without a song", () -> x.move(5, 5));
    CHECK.badState("no song", () -> x.move(5, 0));
    CHECK.badState("half 0 to the half 1", () -> x.move(0, 3));
    CHECK.badState("half 1 to the half 0", () -> x.move(3, 2));
    order(x, 0, 1, 2, 3, 4);
    // 1 2 0 | 3 4: 4 9 5 | 1 8
    CHECK.due("to the end of the half", 7 + 8 + 0 + 3, () -> x.move(0, 2));
    order(x, 1, 2, 0, 3, 4);
    // 0 1 2 | 3 4 again
    CHECK.due("to the start", 17, () -> x.move(0, 0));
    // 1 0 2 | 3 4: 4 5 9 | 1 8
    CHECK.due("one on", 3 + 8 + 4 + 3, () -> x.move(0, 1));
    order(x, 1, 0, 2, 3, 4);
    CHECK.due("to its own place", 18, () -> x.move(0, 1));
    // 1 0 2 | 4 3: 4 5 9 | 8 1
    CHECK.due("in the half 1", 3 + 8 + 11 + 3, () -> x.move(3, 4));
    order(x, 1, 0, 2, 4, 3);
    x.start();
    CHECK.due("in the phase 1", 18, () -> x.move(3, 3));
    x.disqualify(2);
    CHECK.due("a disqualified one", 3 + 7 + 4 + 3, () -> reordered(x));
    x.close();
    CHECK.badState("in the phase 2", () -> x.move(0, 1));
    CHECK.badArgument("wrong in the phase 2", () -> x.move(0, 5));
  }

  /** Back to 0 1 2 by moving the disqualified song too. */
  private static int reordered(Songnations x) {
    x.move(2, 0);
    x.move(1, 1);
    x.move(0, 0);
    return x.move(2, 2);
  }

  private static void promise7() {
    Songnations x = lands(0, 0, 0);
    CHECK.badState("start without songs", () -> x.start());
    songs(x, 2);
    CHECK.badState("start with 1", () -> x.start());
    songs(x, 0);
    CHECK.due("start with 2", 2, () -> x.start());
    CHECK.due("the phase", 1, () -> x.many(1));
    CHECK.badState("start again", () -> x.start());
    x.close();
    CHECK.badState("start in the phase 2", () -> x.start());
    CHECK.due("start with 4", 4, () -> {
      Songnations y = lands(0, 0, 0, 0);
      songs(y, 3, 2, 1, 0);
      return y.start();
    });
  }

  private static void promise8() {
    Songnations x = lands(0, 1, 2, 3);
    CHECK.badArgument("no candidates, the order 1", () -> x.jury(0, 0, 1));
    CHECK.badState("no candidates, the order 0", () -> x.jury(0, 0, 0));
    songs(x, 0, 1, 2);
    CHECK.badState("in the phase 0", () -> x.jury(0, 0, 1));
    CHECK.badArgument("wrong in the phase 0", () -> x.jury(0, 0, 2));
    x.start();
    CHECK.outOfBounds("land -1", () -> x.jury(-1, 0, 0));
    CHECK.outOfBounds("land 4", () -> x.jury(4, 0, 99));
    CHECK.outOfBounds("juror -1", () -> x.jury(0, -1, 0));
    CHECK.outOfBounds("juror 5", () -> x.jury(0, 5, 99));
    CHECK.badArgument("order -1", () -> x.jury(0, 0, -1));
    CHECK.badArgument("order 2 of 2 candidates", () -> x.jury(0, 0, 2));
    CHECK.badArgument("order 6 of 3 candidates", () -> x.jury(3, 0, 6));
    CHECK.due("no ballot by these", 0, () -> x.ofLand(0, 3));
    CHECK.due("0 of (1 2)", 1, () -> x.jury(0, 0, 0));
    CHECK.due("1 of (1 2)", 2, () -> x.jury(0, 4, 1));
    CHECK.due("2 ballots", 2, () -> x.ofLand(0, 3));
    CHECK.due("another one of the same juror", 1, () -> x.jury(0, 4, 0));
    CHECK.due("2 ballots still", 2, () -> x.ofLand(0, 3));
    points(x, 0, true, 0, 12, 10);
    CHECK.due("5 of (0 1 2)", 2, () -> x.jury(3, 0, 5));
    x.disqualify(1);
    CHECK.badArgument("order 2, 1 disqualified", () -> x.jury(3, 0, 2));
    CHECK.due("order 1, 1 disqualified", 2, () -> x.jury(3, 0, 1));
    CHECK.due("a single candidate", 2, () -> x.jury(0, 0, 0));
    CHECK.due("of the land that is out", 0, () -> x.jury(1, 0, 0));
    x.close();
    CHECK.badState("in the phase 2", () -> x.jury(0, 0, 0));
    CHECK.badArgument("wrong in the phase 2", () -> x.jury(0, 0, 1));
  }

  private static void promise8Orders() {
    int[][] orders = {{1, 2, 3}, {1, 3, 2}, {2, 1, 3}, {2, 3, 1}, {3, 1, 2}, {3, 2, 1}};
    int[] weights = {12, 10, 8};
    for (int n = 0; n < 6; n++) {
      Songnations x = four();
      same(x, 0, 2, n);
      int[] want = new int[4];
      for (int place = 0; place < 3; place++) {
        want[orders[n][place]] = weights[place];
      }
      points(x, 0, true, want);
    }
    Songnations y = lands(0, 0, 0, 0, 0, 0, 0, 0);
    songs(y, 0, 1, 2, 3, 4, 5, 6);
    y.start();
    CHECK.badArgument("5040 of 7", () -> y.jury(7, 0, 5040));
    CHECK.due("5039 of 7", 6, () -> y.jury(7, 0, 5039));
    CHECK.due("5039 of 7 again", 6, () -> y.jury(7, 1, 5039));
    points(y, 7, true, 4, 5, 6, 7, 8, 10, 12);
    CHECK.due("4000 of 7", 5, () -> y.jury(7, 0, 4000));
    // 4000 = 5 * 720 + 3 * 120 + 1 * 24 + 2 * 6 + 2 * 2: 5, then 3, 1, 4, 6, and 0, 2
    y.jury(7, 1, 4000);
    points(y, 7, true, 5, 8, 4, 10, 7, 12, 6);
  }

  private static void promise9() {
    Songnations x = lands(0, 1, 2, 3);
    x.rules(180, 6, 5, 0, false);
    songs(x, 0, 1, 2);
    CHECK.badState("in the phase 0", () -> x.call(0, 0, 1, 1));
    CHECK.badArgument("wrong in the phase 0", () -> x.call(0, 0, 0, 1));
    x.start();
    CHECK.outOfBounds("land -1", () -> x.call(-1, 0, 1, 1));
    CHECK.outOfBounds("land 4", () -> x.call(4, 0, 1, 1));
    CHECK.outOfBounds("song -1", () -> x.call(0, 0, -1, 1));
    CHECK.outOfBounds("song 3, not entered", () -> x.call(0, 0, 3, 1));
    CHECK.outOfBounds("the own song, not entered", () -> x.call(3, 0, 3, 0));
    CHECK.outOfBounds("song 8", () -> x.call(0, 0, 8, 1));
    CHECK.outOfBounds("caller -1", () -> x.call(0, -1, 1, 1));
    CHECK.outOfBounds("caller 10", () -> x.call(0, 10, 0, 0));
    CHECK.badArgument("the own song", () -> x.call(0, 0, 0, 1));
    CHECK.badArgument("0 times", () -> x.call(0, 0, 1, 0));
    CHECK.badArgument("100 times", () -> x.call(0, 0, 1, 100));
    CHECK.due("no calls by these", 0, () -> x.ofLand(0, 6));
    CHECK.due("3 of 5", 3, () -> x.call(0, 0, 1, 3));
    CHECK.due("3 more", 2, () -> x.call(0, 0, 2, 3));
    CHECK.due("1 more", 0, () -> x.call(0, 0, 2, 1));
    CHECK.due("another caller", 5, () -> x.call(0, 9, 2, 99));
    CHECK.due("another land", 1, () -> x.call(3, 0, 2, 1));
    CHECK.due("calls of 0", 10, () -> x.ofLand(0, 6));
    x.call(1, 0, 2, 4);
    x.disqualify(2);
    CHECK.badArgument("a disqualified song", () -> x.call(1, 0, 2, 1));
    CHECK.due("those for a disqualified song are told", 1, () -> x.call(1, 0, 0, 4));
    x.close();
    CHECK.badState("in the phase 2", () -> x.call(0, 1, 1, 1));
  }

  private static void promise10() {
    Songnations x = four();
    CHECK.outOfBounds("disqualify(-1)", () -> x.disqualify(-1));
    CHECK.outOfBounds("disqualify(4)", () -> x.disqualify(4));
    same(x, 3, 2, 0);
    points(x, 3, true, 12, 10, 8, 0);
    CHECK.due("disqualify(0)", 3, () -> x.disqualify(0));
    points(x, 3, true, 0, 12, 10, 0);
    CHECK.badState("disqualify(0) again", () -> x.disqualify(0));
    x.close();
    x.read(3);
    CHECK.due("on the board of 1", 12, () -> x.ofSong(1, 9));
    CHECK.due("on the board of 2", 10, () -> x.ofSong(2, 9));
    CHECK.due("disqualify(1) in the phase 2", 2, () -> x.disqualify(1));
    CHECK.due("its board is empty", 0, () -> x.ofSong(1, 9));
    CHECK.due("other boards stay", 10, () -> x.ofSong(2, 9));
    points(x, 3, true, 0, 0, 12, 0);
    CHECK.badState("2 are left", () -> x.disqualify(2));
    CHECK.due("still 2 out", 2, () -> x.many(4));
    Songnations y = lands(0, 0, 0, 0);
    songs(y, 0, 1, 2);
    CHECK.badState("in the phase 0", () -> y.disqualify(0));
    CHECK.outOfBounds("no song, in the phase 0", () -> y.disqualify(3));
    y.start();
    CHECK.outOfBounds("no song", () -> y.disqualify(3));
    y.close();
    readAll(y);
    y.end();
    CHECK.badState("in the phase 3", () -> y.disqualify(0));
  }

  /** Points of now are read right behind a disqualifying, with nothing asked between. */
  private static void promise10AtOnce() {
    Songnations x = four();
    same(x, 3, 2, 5);
    x.call(0, 0, 1, 2);
    x.call(0, 1, 3, 1);
    x.close();
    x.disqualify(2);
    CHECK.due("(2 1 0) without 2", 1, () -> x.read(3));
    CHECK.due("the board of 0", 10, () -> x.ofSong(0, 9));
    x.read(0);
    x.read(1);
    x.read(2);
    x.disqualify(1);
    CHECK.due("3 is first by calls without 1", 3012, () -> x.readCalls());
    Songnations y = four();
    same(y, 3, 2, 5);
    y.close();
    y.read(3);
    y.disqualify(2);
    CHECK.due("1 from 10 to 12, 0 from 8 to 10", 4, () -> y.correct(3));
    CHECK.due("the board of 2 is empty", 0, () -> y.ofSong(2, 9));
    y.read(0);
    y.read(1);
    y.read(2);
    y.readCalls();
    y.readCalls();
    y.readCalls();
    y.disqualify(1);
    CHECK.due("0 wins without 1", 0, () -> y.end());
  }

  private static void promise11() {
    Songnations x = four();
    same(x, 0, 2, 0);
    same(x, 1, 1, 0);
    same(x, 2, 5, 0);
    CHECK.due("close()", 2, () -> x.close());
    CHECK.due("the phase", 2, () -> x.many(1));
    CHECK.badState("close() again", () -> x.close());
    CHECK.badState("close() in the phase 0", () -> lands(0, 0).close());
    CHECK.due("close() without ballots", 5, () -> two().close());
  }

  private static void promise12() {
    Songnations x = four();
    CHECK.badState("in the phase 1", () -> x.fail(0));
    CHECK.outOfBounds("no land, in the phase 1", () -> x.fail(4));
    x.close();
    CHECK.outOfBounds("fail(-1)", () -> x.fail(-1));
    CHECK.due("fail(0)", 3, () -> x.fail(0));
    CHECK.due("fail(0) again", 3, () -> x.fail(0));
    CHECK.due("fail(1)", 2, () -> x.fail(1));
    CHECK.badState("read(1)", () -> x.read(1));
    x.read(2);
    CHECK.badState("fail(2), which was read", () -> x.fail(2));
    CHECK.due("all lines are well then", 2, () -> x.fail(3));
    CHECK.due("fail(1) with 0 left", 1, () -> x.fail(1));
    CHECK.badState("fail(0), none would be left", () -> x.fail(0));
    CHECK.due("fail(3) again, 0 is left", 1, () -> x.fail(3));
    x.read(0);
    CHECK.due("fail(3), 1 is left", 1, () -> x.fail(3));
    x.read(1);
    CHECK.badState("fail(3), the last one", () -> x.fail(3));
    x.read(3);
    CHECK.badState("fail(3), all were read", () -> x.fail(3));
  }

  private static void promise13() {
    Songnations x = four();
    same(x, 3, 2, 2);
    CHECK.badState("in the phase 1", () -> x.read(3));
    CHECK.outOfBounds("no land, in the phase 1", () -> x.read(4));
    x.close();
    CHECK.outOfBounds("read(-1)", () -> x.read(-1));
    CHECK.due("(1 0 2)", 1, () -> x.read(3));
    CHECK.due("12 on the board", 12, () -> x.ofSong(1, 9));
    CHECK.due("10 on the board", 10, () -> x.ofSong(0, 9));
    CHECK.due("8 on the board", 8, () -> x.ofSong(2, 9));
    CHECK.badState("read(3) again", () -> x.read(3));
    CHECK.due("read(0), which gives nothing", NONE, () -> x.read(0));
    CHECK.due("1 was read", 1, () -> x.ofLand(3, 8));
    CHECK.due("2 was not read", 0, () -> x.ofLand(2, 8));
    x.fail(1);
    CHECK.badState("its line failed", () -> x.read(1));
    x.read(2);
    CHECK.due("its line is well again", NONE, () -> x.read(1));
    CHECK.badState("all were read", () -> x.read(1));
  }

  private static void promise14() {
    Songnations x = four();
    same(x, 3, 2, 2);
    x.call(0, 0, 1, 2);
    x.call(0, 1, 2, 1);
    x.call(2, 0, 1, 2);
    CHECK.badState("in the phase 1", () -> x.readCalls());
    x.close();
    for (int land = 0; land < 4; land++) {
      CHECK.badState("a land was not read", () -> x.readCalls());
      x.read(land);
    }
    // On the board 0 10, 1 12, 2 8, 3 0; by calls 1 has 24, 2 has 10.
    CHECK.due("3 is next", 3000, () -> x.readCalls());
    CHECK.due("2 is next", 2010, () -> x.readCalls());
    CHECK.due("the board of 2", 18, () -> x.ofSong(2, 9));
    x.disqualify(0);
    CHECK.due("1 is next, 0 is disqualified", 1024, () -> x.readCalls());
    CHECK.due("the board of 1", 36, () -> x.ofSong(1, 9));
    CHECK.badState("no next song", () -> x.readCalls());
    x.end();
    CHECK.badState("in the phase 3", () -> x.readCalls());
    Songnations y = four();
    y.close();
    for (int land = 0; land < 4; land++) {
      y.read(land);
    }
    CHECK.due("of several the greatest", 3000, () -> y.readCalls());
    CHECK.due("then the next one", 2000, () -> y.readCalls());
  }

  private static void promise15() {
    Songnations x = four();
    same(x, 3, 2, 0);
    CHECK.badState("in the phase 1", () -> x.correct(3));
    x.close();
    CHECK.outOfBounds("correct(-1)", () -> x.correct(-1));
    CHECK.outOfBounds("correct(4)", () -> x.correct(4));
    CHECK.badState("it was not read", () -> x.correct(3));
    x.read(3);
    x.disqualify(0);
    CHECK.due("points of now", 12, () -> x.ofSong(1, 5));
    CHECK.due("the board stays", 10, () -> x.ofSong(1, 9));
    CHECK.due("10 to 12, and 8 to 10", 4, () -> x.correct(3));
    CHECK.due("the board of 1", 12, () -> x.ofSong(1, 9));
    CHECK.due("the board of 2", 10, () -> x.ofSong(2, 9));
    CHECK.due("the board of 0", 0, () -> x.ofSong(0, 9));
    CHECK.due("without a difference", 0, () -> x.correct(3));
    CHECK.due("corrected twice", 2, () -> x.many(11));
    x.read(0);
    x.read(1);
    x.read(2);
    CHECK.due("3 first by calls", 3000, () -> x.readCalls());
    x.disqualify(1);
    CHECK.due("behind calls that were read", 2, () -> x.correct(3));
    x.readCalls();
    x.end();
    CHECK.badState("in the phase 3", () -> x.correct(3));
    x.next();
    CHECK.due("ever", 3, () -> x.many(11));
    pairCorrected();
  }

  /** Behind a pair, points get fewer too: differences are summed without their signs. */
  private static void pairCorrected() {
    Songnations x = lands(0, 0, 0, 1);
    x.rules(180, 6, 10, 0, true);
    songs(x, 0, 1, 2, 3);
    x.start();
    // Land 0 (2 1 3) three times, land 1 (0 2 3) three times, land 2 (3 0 1) twice.
    same(x, 0, 3, 2);
    same(x, 1, 3, 0);
    same(x, 2, 2, 4);
    x.close();
    x.read(0);
    x.read(1);
    CHECK.due("the board of 2", 22, () -> x.ofSong(2, 9));
    // Without 2, land 0 and 1 are a pair: by land 2 alone 3 is first, then 0 and 1.
    x.disqualify(2);
    CHECK.due("both are void", 1, () -> x.ofLand(0, 5) * x.ofLand(1, 5));
    points(x, 0, true, 0, 10, 0, 12);
    points(x, 1, true, 10, 0, 0, 12);
    CHECK.due("1 as before, 3 from 8 to 12", 4, () -> x.correct(0));
    CHECK.due("0 from 12 to 10, 3 from 8 to 12", 6, () -> x.correct(1));
  }

  private static void promise16() {
    Songnations x = new Songnations();
    x.land(0, 119);
    x.land(1, 120);
    x.land(2, 999);
    x.rules(180, 6, 10, 0, false);
    songs(x, 0, 1, 2);
    x.start();
    CHECK.badState("in the phase 1", () -> x.end());
    // Land 2 (0 1), so that 0 has 12, 1 has 10, 2 has none.
    same(x, 2, 2, 0);
    x.close();
    for (int land = 0; land < 3; land++) {
      CHECK.badState("a land was not read", () -> x.end());
      x.read(land);
    }
    for (int song = 0; song < 3; song++) {
      CHECK.badState("a song was not read", () -> x.end());
      x.readCalls();
    }
    CHECK.due("no host yet", NONE, () -> x.many(9));
    CHECK.due("0 wins", 0, () -> x.end());
    CHECK.due("the phase", 3, () -> x.many(1));
    CHECK.due("119 beds are too few, 120 are enough", 1, () -> x.many(9));
    CHECK.due("the prize", 140, () -> x.ofLand(0, 2));
    CHECK.due("the host pays", 30, () -> x.ofLand(1, 2));
    CHECK.due("2 gets nothing", 90, () -> x.ofLand(2, 2));
    CHECK.due("0 won", 1, () -> x.ofLand(0, 9));
    CHECK.due("0 was not the host", 0, () -> x.ofLand(0, 10));
    CHECK.due("1 did not win", 0, () -> x.ofLand(1, 9));
    CHECK.due("1 was the host", 1, () -> x.ofLand(1, 10));
    CHECK.badState("end() again", () -> x.end());
    withDisqualified();
    withoutHost();
  }

  /** Beds for disqualified songs too; what is ranked first counts, not what is on the board. */
  private static void withDisqualified() {
    Songnations x = new Songnations();
    x.land(0, 159);
    x.land(1, 999);
    x.land(2, 160);
    x.land(3, 0);
    x.rules(180, 6, 10, 0, false);
    songs(x, 0, 1, 2, 3);
    x.start();
    same(x, 3, 2, 2);
    x.call(3, 0, 0, 1);
    x.close();
    for (int land = 0; land < 4; land++) {
      x.read(land);
    }
    x.readCalls();
    x.readCalls();
    x.readCalls();
    CHECK.badState("1 was not read", () -> x.end());
    x.disqualify(1);
    // 0 has 24, 2 has 10, 3 has none; the board of 0 is 22.
    CHECK.due("0 wins, 1 is out", 0, () -> x.end());
    CHECK.due("beds for 4 songs", 2, () -> x.many(9));
    CHECK.due("the board stays in the phase 3", 22, () -> x.ofSong(0, 9));
  }

  private static void withoutHost() {
    Songnations x = new Songnations();
    x.land(0, 79);
    x.land(1, 0);
    x.land(2, 999);
    songs(x, 0, 1);
    x.start();
    x.close();
    readAll(x);
    CHECK.due("the first in the order wins", 0, () -> x.end());
    CHECK.due("no host", NONE, () -> x.many(9));
    CHECK.due("nobody pays", 140 + 90 + 100,
        () -> x.ofLand(0, 2) + x.ofLand(1, 2) + x.ofLand(2, 2));
  }

  private static void promise17() {
    Songnations x = four();
    CHECK.badState("in the phase 1", () -> x.next());
    same(x, 3, 4, 2);
    x.call(0, 0, 1, 10);
    x.close();
    CHECK.badState("in the phase 2", () -> x.next());
    readAll(x);
    x.end();
    CHECK.due("the year 1", 1, () -> x.next());
    manyAre(x, 1, 0, 4, 0, 0, 0, 4, 0, 0, NONE, 1, 0);
    CHECK.badState("next() again", () -> x.next());
    for (int land = 0; land < 4; land++) {
      int its = land;
      CHECK.due("ballots of " + its, 0, () -> x.ofLand(its, 3));
      CHECK.due("calls of " + its, 0, () -> x.ofLand(its, 6));
      CHECK.due("read " + its, 0, () -> x.ofLand(its, 8));
      CHECK.outOfBounds("song " + its, () -> x.ofSong(its, 0));
    }
    songs(x, 0, 1);
    CHECK.due("nothing on the board", 0, () -> x.ofSong(1, 9));
    CHECK.due("no points", 0, () -> x.ofSong(1, 7));
    x.start();
    CHECK.due("the caller can call again", 10, () -> x.call(0, 0, 1, 99));
    x.close();
    CHECK.due("land 3 can be read again", NONE, () -> x.read(3));
    CHECK.due("a line of a year", 2, () -> x.fail(0));
  }

  private static void promise17LastYear() {
    Songnations x = lands(0, 0);
    for (int year = 0; year <= 20; year++) {
      int its = year;
      CHECK.due("many(0)", its, () -> x.many(0));
      x.enter(0, 60, 1, 0);
      x.enter(1, 60, 1, 0);
      x.start();
      x.close();
      readAll(x);
      CHECK.due("the half is of the year", its % 2, () -> x.ofSong(0, 2));
      CHECK.due("the winner is of the order", its % 2, () -> x.end());
      CHECK.due("the winner before", its == 0 ? NONE : (its + 1) % 2, () -> x.many(10));
      if (year < 20) {
        CHECK.due("next()", its + 1, () -> x.next());
      }
    }
    CHECK.badState("next() in the year 20", () -> x.next());
    CHECK.due("the phase stays", 3, () -> x.many(1));
    CHECK.due("0 won 11 times", 11, () -> x.ofLand(0, 9));
    CHECK.due("1 was the host 10 times", 10, () -> x.ofLand(1, 10));
    CHECK.due("money of 0", 100 - 21 * 10 - 11 * 10, () -> x.ofLand(0, 2));
  }

  private static void promise18() {
    Songnations x = new Songnations();
    x.land(2, 17);
    CHECK.outOfBounds("ofLand(-1, 0)", () -> x.ofLand(-1, 0));
    CHECK.outOfBounds("ofLand(1, 99)", () -> x.ofLand(1, 99));
    CHECK.badArgument("ofLand(0, -1)", () -> x.ofLand(0, -1));
    CHECK.badArgument("ofLand(0, 11)", () -> x.ofLand(0, 11));
    int[] want = {2, 17, 100, 0, NONE, 1, 0, 0, 0, 0, 0};
    for (int what = 0; what <= 10; what++) {
      int its = what;
      CHECK.due("ofLand(0, " + its + ")", want[its], () -> x.ofLand(0, its));
    }
    Songnations y = four();
    y.jury(0, 3, 0);
    CHECK.due("1 ballot", 1, () -> y.ofLand(0, 3));
    CHECK.due("void with 1", 1, () -> y.ofLand(0, 5));
    y.jury(0, 1, 0);
    CHECK.due("not void with 2", 0, () -> y.ofLand(0, 5));
    y.call(0, 0, 1, 4);
    y.call(0, 1, 2, 3);
    CHECK.due("calls for candidates", 7, () -> y.ofLand(0, 6));
    y.disqualify(1);
    CHECK.due("calls for candidates, 1 is out", 3, () -> y.ofLand(0, 6));
    CHECK.due("ballots stay", 2, () -> y.ofLand(0, 3));
  }

  /** Five lands of five voices; the last one has no song, so that it has 4 candidates. */
  private static Songnations fourSongsOfFive() {
    Songnations x = lands(0, 1, 2, 3, 3);
    x.rules(180, 6, 10, 0, false);
    songs(x, 0, 1, 2, 3);
    x.start();
    return x;
  }

  private static void promise18Outliers() {
    Songnations x = fourSongsOfFive();
    // (0 1 2 3) twice and (3 1 2 0): the order is 0 1 3 2, and its distance 3 + 0 + 1 + 2.
    same(x, 4, 2, 0);
    x.jury(4, 2, 21);
    CHECK.due("6 is not above the half of 12", NONE, () -> x.ofLand(4, 4));
    points(x, 4, true, 12, 10, 7, 8);
    // (3 2 1 0): sums 31 28 26 26, the order is 0 1 2 3, and its distance 3 + 1 + 1 + 3.
    x.jury(4, 2, 23);
    CHECK.due("8 is above", 2, () -> x.ofLand(4, 4));
    points(x, 4, true, 12, 10, 8, 7);
    Songnations y = fourSongsOfFive();
    // (0 1 2 3) of juror 4, (3 2 1 0) twice: sums 26 26 28 31, so 3 2 0 1, and its distance is
    // 2 + 2 + 1 + 3; without it 3 2 1 0.
    y.jury(4, 4, 0);
    same(y, 4, 1, 23);
    CHECK.due("2 ballots are too few", NONE, () -> y.ofLand(4, 4));
    y.jury(4, 2, 23);
    CHECK.due("8 is above", 4, () -> y.ofLand(4, 4));
    points(y, 4, true, 7, 8, 10, 12);
    CHECK.due("3 ballots with it", 3, () -> y.ofLand(4, 3));
    CHECK.due("not void", 0, () -> y.ofLand(4, 5));
    y.disqualify(0);
    CHECK.due("too near without 0", NONE, () -> y.ofLand(4, 4));
    smallestJuror();
  }

  private static void smallestJuror() {
    Songnations x = lands(0, 0, 0, 0, 0, 0);
    songs(x, 0, 1, 2, 3, 4);
    x.start();
    // (0 1 2 3 4) of 0, 2, 4, and (4 3 2 1 0) of 1, 3: sums 48 44 40 41 42, distances 4 and 12.
    same(x, 5, 5, 0);
    x.jury(5, 1, 119);
    x.jury(5, 3, 119);
    CHECK.due("the smallest juror", 1, () -> x.ofLand(5, 4));
    points(x, 5, true, 12, 10, 8, 7, 6);
    x.jury(5, 1, 0);
    CHECK.due("3 alone", 3, () -> x.ofLand(5, 4));
  }

  private static void promise18Pairs() {
    Songnations x = lands(0, 0, 0, 1);
    x.rules(180, 6, 10, 0, true);
    songs(x, 0, 1, 2, 3);
    x.start();
    x.jury(0, 0, 0);
    x.jury(0, 1, 1);
    x.jury(0, 2, 0);
    x.jury(1, 0, 0);
    x.jury(1, 1, 1);
    CHECK.due("2 ballots of 1", 0, () -> x.ofLand(0, 5));
    x.jury(1, 4, 2);
    CHECK.due("3 ballots, 2 have it first", 0, () -> x.ofLand(1, 5));
    x.jury(1, 3, 0);
    CHECK.due("a pair: 0", 1, () -> x.ofLand(0, 5));
    CHECK.due("a pair: 1", 1, () -> x.ofLand(1, 5));
    CHECK.due("not 2, but for its ballots", 1, () -> x.ofLand(2, 5));
    same(x, 2, 3, 0);
    CHECK.due("2 praises 0, but 0 does not praise 2", 0, () -> x.ofLand(2, 5));
    CHECK.due("3 has no ballots", 2 + 1, () -> x.many(6));
    Songnations y = four();
    same(y, 0, 3, 0);
    same(y, 1, 3, 0);
    CHECK.due("no audit", 2, () -> y.many(6));
    pairWithoutOutlier();
  }

  /** Of three ballots with the other's song first, one is an outlier. */
  private static void pairWithoutOutlier() {
    Songnations x = lands(0, 0, 0, 0, 0, 0, 0, 0);
    x.rules(180, 6, 10, 0, true);
    songs(x, 0, 1, 2, 3, 4, 5, 6, 7);
    x.start();
    same(x, 0, 2, 0);
    x.jury(0, 2, 719);
    same(x, 1, 3, 0);
    CHECK.due("(1 7 6 5 4 3 2) is an outlier", 2, () -> x.ofLand(0, 4));
    CHECK.due("no pair", 6, () -> x.many(6));
    x.jury(0, 3, 0);
    CHECK.due("still an outlier", 2, () -> x.ofLand(0, 4));
    CHECK.due("a pair", 8, () -> x.many(6));
  }

  private static void promise18Blocks() {
    Songnations x = lands(0, 1, 2, 3);
    x.rules(180, 6, 2, 0, false);
    songs(x, 0, 1, 2, 3);
    x.start();
    x.call(3, 0, 1, 2);
    x.call(3, 1, 1, 1);
    x.call(3, 1, 1, 1);
    x.call(3, 2, 1, 1);
    x.call(3, 2, 0, 1);
    x.call(3, 3, 1, 1);
    CHECK.due("2 callers are no block", 0, () -> x.ofLand(3, 7));
    CHECK.due("calls", 7, () -> x.ofLand(3, 6));
    x.call(3, 3, 1, 9);
    CHECK.due("3 callers are one", 3, () -> x.ofLand(3, 7));
    CHECK.due("calls beside it", 2, () -> x.ofLand(3, 6));
    points(x, 3, false, 12, 10, 0, 0);
    x.call(3, 4, 2, 2);
    x.call(3, 5, 2, 2);
    x.call(3, 6, 2, 2);
    CHECK.due("a second block", 6, () -> x.ofLand(3, 7));
    x.call(3, 7, 1, 2);
    CHECK.due("a fourth caller", 7, () -> x.ofLand(3, 7));
    CHECK.due("calls beside both", 2, () -> x.ofLand(3, 6));
    x.disqualify(1);
    CHECK.due("for a disqualified song too", 7, () -> x.ofLand(3, 7));
    CHECK.due("calls for candidates", 1, () -> x.ofLand(3, 6));
    CHECK.due("a block of another land", 0, () -> x.ofLand(2, 7));
  }

  private static void promise19() {
    Songnations x = lands(0, 1, 2, 3);
    x.rules(180, 6, 10, 0, false);
    x.enter(0, 101, 2, 3);
    x.enter(1, 102, 1, 4);
    x.enter(2, 100, 1, 5);
    x.start();
    CHECK.outOfBounds("ofSong(-1, 0)", () -> x.ofSong(-1, 0));
    CHECK.outOfBounds("ofSong(4, 0)", () -> x.ofSong(4, 0));
    CHECK.outOfBounds("ofSong(3, 99), no song", () -> x.ofSong(3, 99));
    CHECK.badArgument("ofSong(0, -1)", () -> x.ofSong(0, -1));
    CHECK.badArgument("ofSong(0, 10)", () -> x.ofSong(0, 10));
    same(x, 3, 2, 3);
    x.call(3, 0, 0, 2);
    x.call(2, 0, 0, 2);
    x.call(2, 0, 1, 1);
    // Jury points 0 8, 1 12, 2 10; call points 0 24, 1 10, 2 0.
    songIs(x, 0, 101, 3, 1, 1, 0, 8, 24, 32, 0, 0);
    songIs(x, 1, 102, 4, 1, 2, 0, 12, 10, 22, 1, 0);
    songIs(x, 2, 100, 5, 0, 0, 0, 10, 0, 10, 2, 0);
    x.close();
    x.read(3);
    songIs(x, 1, 102, 4, 1, 2, 0, 12, 10, 22, 1, 12);
    x.disqualify(0);
    songIs(x, 0, 101, 3, 1, 1, 1, 0, 0, 0, NONE, 0);
    songIs(x, 1, 102, 4, 1, 2, 0, 12, 12, 24, 0, 12);
    x.read(0);
    x.read(1);
    x.read(2);
    x.readCalls();
    x.readCalls();
    songIs(x, 1, 102, 4, 1, 2, 0, 12, 12, 24, 0, 24);
    songIs(x, 2, 100, 5, 0, 0, 0, 10, 0, 10, 1, 10);
  }

  private static void songIs(Songnations x, int song, int... want) {
    for (int what = 0; what < want.length; what++) {
      int its = what;
      CHECK.due("ofSong(" + song + ", " + its + ")", want[its], () -> x.ofSong(song, its));
    }
  }

  private static void promise20Juries() {
    Songnations x = four();
    CHECK.outOfBounds("gives(-1, 0)", () -> x.gives(-1, 0, true));
    CHECK.outOfBounds("gives(4, 0)", () -> x.gives(4, 0, false));
    CHECK.outOfBounds("gives(0, -1)", () -> x.gives(0, -1, true));
    CHECK.outOfBounds("gives(0, 4)", () -> x.gives(0, 4, false));
    CHECK.outOfBounds("gives(0, 4), a land", () -> two().gives(0, 4, false));
    // (0 1 2) and (2 1 0): all have 20, so by numbers.
    x.jury(3, 0, 0);
    x.jury(3, 1, 5);
    points(x, 3, true, 12, 10, 8, 0);
    // (0 1 2), (2 1 0), (1 2 0): 28 32 30.
    x.jury(3, 2, 3);
    points(x, 3, true, 8, 12, 10, 0);
    x.disqualify(2);
    // (0 1), (1 0), (1 0): 32 34.
    points(x, 3, true, 10, 12, 0, 0);
  }

  private static void promise20VoidJuries() {
    Songnations x = lands(0, 0, 0, 1, 1);
    x.rules(180, 6, 10, 0, false);
    songs(x, 0, 1, 2, 3);
    x.start();
    same(x, 2, 2, 0);
    // Land 2: (0 1 3) twice: 24 20 16. Lands 0 and 1 are void, and have no 2 there.
    points(x, 0, true, 0, 12, 0, 10);
    points(x, 1, true, 12, 0, 0, 10);
    points(x, 3, true, 0, 0, 0, 0);
    points(x, 4, true, 0, 0, 0, 0);
    x.jury(0, 0, 5);
    points(x, 0, true, 0, 12, 0, 10);
    // Land 0: (3 2 1) twice: 1 has 16, 2 has 20, 3 has 24. Land 1 sums up 0 24, 2 20, 3 40.
    x.jury(0, 1, 5);
    points(x, 0, true, 0, 8, 10, 12);
    points(x, 1, true, 10, 0, 8, 12);
    x.disqualify(3);
    // Land 0: (2 1), land 2: (0 1): both 24 20. Land 1: 0 24, 2 24.
    points(x, 1, true, 12, 0, 10, 0);
    pairPoints();
  }

  private static void pairPoints() {
    Songnations x = lands(0, 0, 0, 0);
    x.rules(180, 6, 10, 0, true);
    songs(x, 0, 1, 2, 3);
    x.start();
    // 0 and 1 are a pair; 2 and 3 have (0 1 3) and (2 0 1), twice each.
    same(x, 0, 3, 0);
    same(x, 1, 3, 0);
    same(x, 2, 2, 0);
    same(x, 3, 2, 4);
    // 0: 1 20 + 16, 2 24, 3 16. 1: 0 24 + 20, 2 24, 3 16.
    points(x, 0, true, 0, 12, 10, 8);
    points(x, 1, true, 12, 0, 10, 8);
    // Another pair at once: 2 has 3 first, 3 has 2 first; so that nobody is left.
    same(x, 2, 3, 4);
    same(x, 3, 3, 4);
    for (int land = 0; land < 4; land++) {
      points(x, land, true, 0, 0, 0, 0);
    }
  }

  private static void promise20Calls() {
    Songnations x = lands(0, 1, 2, 3);
    x.rules(180, 6, 10, 5, false);
    songs(x, 0, 1, 2, 3);
    x.start();
    same(x, 3, 2, 0);
    points(x, 3, false, 12, 10, 8, 0);
    x.call(3, 0, 1, 4);
    points(x, 3, false, 12, 10, 8, 0);
    x.call(3, 1, 2, 2);
    points(x, 3, false, 0, 12, 10, 0);
    x.call(3, 2, 2, 2);
    // 4 calls each: those for 2 are of 2 callers.
    points(x, 3, false, 0, 10, 12, 0);
    x.call(3, 3, 0, 4);
    // 0 and 1: 4 calls of 1 caller.
    points(x, 3, false, 10, 8, 12, 0);
    x.call(3, 4, 1, 1);
    points(x, 3, false, 8, 12, 10, 0);
    x.disqualify(1);
    points(x, 3, false, 10, 0, 12, 0);
    x.disqualify(0);
    // 4 calls for candidates are fewer than 5: as by the jury.
    points(x, 3, false, 0, 0, 12, 0);
    CHECK.due("its own song", 0, () -> x.gives(3, 3, false));
    fewCallersOfMoreCalls();
    Songnations y = lands(0, 0, 0);
    y.rules(180, 6, 10, 1, false);
    songs(y, 0, 1);
    y.start();
    points(y, 2, false, 0, 0);
    same(y, 2, 2, 1);
    points(y, 2, false, 10, 12);
    y.call(2, 0, 0, 1);
    points(y, 2, false, 12, 0);
  }

  private static void fewCallersOfMoreCalls() {
    Songnations x = four();
    for (int caller = 1; caller <= 4; caller++) {
      x.call(3, caller, 0, 1);
    }
    x.call(3, 0, 1, 5);
    x.call(3, 5, 2, 3);
    points(x, 3, false, 10, 12, 8, 0);
  }

  private static void promise21() {
    Songnations x = lands(0, 0, 0, 0);
    CHECK.outOfBounds("at(0) without songs", () -> x.at(0));
    songs(x, 3, 1, 2);
    order(x, 3, 1, 2);
    CHECK.outOfBounds("at(-1)", () -> x.at(-1));
    CHECK.outOfBounds("at(far)", () -> x.at(Integer.MAX_VALUE));
    x.start();
    x.disqualify(1);
    order(x, 3, 1, 2);
  }

  private static void promise22() {
    Songnations x = lands(0, 0, 0, 0);
    CHECK.outOfBounds("ranked(0) without songs", () -> x.ranked(0));
    songs(x, 3, 1, 2);
    CHECK.outOfBounds("ranked(-1)", () -> x.ranked(-1));
    ranks(x, 3, 1, 2);
    x.move(2, 0);
    ranks(x, 2, 3, 1);
    x.start();
    x.disqualify(3);
    ranks(x, 2, 1);
    // (0 1): 0 is 12 and 10; by calls 10 and 12: the same in all, 1 has more by calls.
    Songnations y = two();
    same(y, 2, 2, 0);
    ranks(y, 0, 1);
    y.call(2, 0, 1, 2);
    y.call(2, 1, 0, 1);
    ranks(y, 1, 0);
    bySomeLands();
    byTwelves();
  }

  private static void bySomeLands() {
    Songnations x = lands(0, 0, 0, 0, 0, 0, 0, 0);
    x.rules(180, 6, 20, 0, false);
    songs(x, 0, 1, 2, 3, 4, 5);
    x.start();
    for (int land = 6; land < 8; land++) {
      for (int song = 1; song <= 5; song++) {
        x.call(land, 0, song, 6 - song);
      }
    }
    x.call(1, 0, 0, 1);
    // 0 has 12 of one land, 5 has 6 and 6 of two.
    ranks(x, 1, 2, 3, 4, 5, 0);
  }

  private static void byTwelves() {
    Songnations x = lands(0, 0, 0, 0, 0);
    x.rules(180, 6, 20, 0, false);
    songs(x, 0, 1, 2);
    x.start();
    for (int song = 0; song < 3; song++) {
      x.call(3, 0, song, song == 1 ? 3 : song == 0 ? 2 : 1);
      x.call(4, 0, song, song + 1 == 3 ? 3 : 2 - song);
    }
    // 1 has 12 and 8, 2 has 8 and 12, 0 has 10 and 10.
    ranks(x, 1, 2, 0);
    x.move(2, 0);
    ranks(x, 2, 1, 0);
  }

  private static void promise23() {
    Songnations x = lands(0, 1, 2, 3);
    CHECK.badArgument("many(-1)", () -> x.many(-1));
    CHECK.badArgument("many(12)", () -> x.many(12));
    x.rules(180, 6, 10, 0, false);
    x.enter(0, 100, 1, 9);
    x.enter(1, 101, 1, 4);
    x.enter(2, 100, 1, 3);
    manyAre(x, 0, 0, 4, 3, 0, 7 + 1, 4, 0, 0, NONE, NONE, 0);
    x.start();
    same(x, 3, 2, 5);
    x.disqualify(0);
    manyAre(x, 0, 1, 4, 3, 1, 8, 3, 0, 0, NONE, NONE, 0);
    x.close();
    x.read(0);
    x.read(3);
    x.correct(3);
    x.correct(0);
    manyAre(x, 0, 2, 4, 3, 1, 8, 3, 2, 0, NONE, NONE, 2);
    x.read(1);
    x.read(2);
    x.readCalls();
    manyAre(x, 0, 2, 4, 3, 1, 8, 3, 4, 1, NONE, NONE, 2);
    x.readCalls();
    x.end();
    manyAre(x, 0, 3, 4, 3, 1, 8, 3, 4, 2, 2, NONE, 2);
    x.next();
    manyAre(x, 1, 0, 4, 0, 0, 0, 4, 0, 0, NONE, 2, 2);
    songs(x, 0, 1, 3);
    x.start();
    x.close();
    for (int land = 0; land < 4; land++) {
      x.read(land);
    }
    x.readCalls();
    x.disqualify(3);
    CHECK.due("calls of 3 were read, it is out now", 1, () -> x.many(8));
    x.readCalls();
    x.readCalls();
    CHECK.due("the first one in the order", 0, () -> x.end());
    manyAre(x, 1, 3, 4, 3, 1, 0, 4, 4, 3, 0, 2, 2);
    x.next();
    CHECK.due("the winner of the year 1", 0, () -> x.many(10));
  }

  private static void promise24() {
    Songnations x = four();
    CHECK.due("no points", 0.0, () -> x.meanTotal());
    same(x, 3, 2, 0);
    CHECK.due("30 of 4", 7.5, () -> x.meanTotal());
    x.call(0, 0, 1, 1);
    CHECK.due("42 of 4", 10.5, () -> x.meanTotal());
    x.disqualify(0);
    CHECK.due("34 of 3, not cut", 34.0 / 3.0, () -> x.meanTotal());
    CHECK.due("without songs", 0.0, () -> lands(0, 0).meanTotal());
  }

  private static void promise25() {
    Songnations x = two();
    same(x, 2, 2, 0);
    same(x, 3, 2, 0);
    same(x, 4, 2, 0);
    CHECK.due("in the phase 1", false, () -> x.isOpen());
    x.close();
    CHECK.due("nothing was read", true, () -> x.isOpen());
    x.read(2);
    x.read(3);
    x.read(4);
    CHECK.due("36 and 30, land 0 can give 12 to 1", true, () -> x.isOpen());
    x.read(0);
    CHECK.due("36 and 30, land 1 gives nothing to 1", false, () -> x.isOpen());
    x.read(1);
    CHECK.due("all were read", false, () -> x.isOpen());
    justOpen();
    Songnations z = two();
    z.close();
    for (int land = 0; land < 5; land++) {
      CHECK.due("0 and 0", true, () -> z.isOpen());
      z.read(land);
    }
    CHECK.due("0 and 0, but all were read", false, () -> z.isOpen());
    CHECK.due("without lands", false, () -> new Songnations().isOpen());
  }

  /** Land 1 and land 2 give 12 to 0 and nothing to 1, the others give nothing. */
  private static void justOpen() {
    Songnations x = lands(1, 0, 0, 2);
    x.rules(180, 6, 10, 0, false);
    songs(x, 0, 1);
    x.start();
    same(x, 1, 2, 0);
    x.close();
    CHECK.due("read(1)", 0, () -> x.read(1));
    CHECK.due("read(2)", 0, () -> x.read(2));
    CHECK.due("24 and 0, 24 can come", true, () -> x.isOpen());
    x.read(0);
    CHECK.due("24 and 0, 12 can come", false, () -> x.isOpen());
  }

  private static void promise26() {
    Songnations x = two();
    same(x, 2, 2, 0);
    same(x, 3, 2, 0);
    same(x, 4, 2, 1);
    CHECK.due("in the phase 1", NONE, () -> x.nextRead());
    x.close();
    CHECK.due("0 and 1 give nothing", 0, () -> x.nextRead());
    x.fail(0);
    CHECK.due("0 failed", 1, () -> x.nextRead());
    x.read(1);
    CHECK.due("0 is well again", 0, () -> x.nextRead());
    x.read(0);
    CHECK.due("all make 2", 2, () -> x.nextRead());
    x.read(2);
    CHECK.due("12 and 10: 4 makes it 22 and 22", 4, () -> x.nextRead());
    x.fail(4);
    CHECK.due("3 alone can be read", 3, () -> x.nextRead());
    x.read(3);
    CHECK.due("4 is the last one", 4, () -> x.nextRead());
    x.read(4);
    CHECK.due("without one", NONE, () -> x.nextRead());
    x.readCalls();
    x.readCalls();
    x.end();
    CHECK.due("in the phase 3", NONE, () -> x.nextRead());
    CHECK.due("in the phase 0", NONE, () -> lands(0).nextRead());
  }

  private static void promise27() {
    Songnations x = lands(3, 3, 0, 1, 0);
    CHECK.due("without songs", NONE, () -> x.without(4));
    CHECK.outOfBounds("without(-1)", () -> x.without(-1));
    CHECK.outOfBounds("without(5)", () -> x.without(5));
    x.rules(180, 6, 10, 0, false);
    songs(x, 1, 0);
    CHECK.due("by the order", 1, () -> x.without(4));
    x.start();
    same(x, 2, 2, 0);
    same(x, 3, 2, 1);
    // Land 2 and 4 (by the sums of 2) have 0 first, land 3 has 1 first: 34 and 32.
    CHECK.due("ranked first", 0, () -> x.ranked(0));
    CHECK.due("without 3", 0, () -> x.without(3));
    // 12 + 10 and 10 + 12: what land 4 has by the sums of 2 stays.
    CHECK.due("without 2, by the order", 1, () -> x.without(2));
    x.call(3, 0, 1, 2);
    CHECK.due("ranked first by calls", 1, () -> x.ranked(0));
    CHECK.due("without 3 and its calls", 0, () -> x.without(3));
    CHECK.due("without 0, which gives nothing", 1, () -> x.without(0));
    x.call(2, 0, 0, 1);
    // Without 4: 0 has 12 + 10 + 12, 1 has 10 + 12 + 12; by the order.
    CHECK.due("all the same without 4", 1, () -> x.without(4));
    x.move(0, 0);
    CHECK.due("by the other order", 0, () -> x.without(4));
  }

  private static void promise28() {
    Songnations x = four();
    CHECK.outOfBounds("needCalls(-1, 0)", () -> x.needCalls(-1, 0));
    CHECK.outOfBounds("needCalls(4, 0)", () -> x.needCalls(4, 0));
    CHECK.outOfBounds("needCalls(0, -1)", () -> x.needCalls(0, -1));
    CHECK.outOfBounds("needCalls(0, 4)", () -> x.needCalls(0, 4));
    CHECK.outOfBounds("needCalls(4, 4), no song", () -> two().needCalls(4, 4));
    CHECK.due("its own song", NONE, () -> x.needCalls(3, 3));
    CHECK.due("no calls", 1, () -> x.needCalls(3, 2));
    x.call(3, 0, 1, 4);
    CHECK.due("first by now", 0, () -> x.needCalls(3, 1));
    CHECK.due("as many, as many callers, smaller", 4, () -> x.needCalls(3, 0));
    CHECK.due("as many, as many callers, greater", 5, () -> x.needCalls(3, 2));
    x.call(3, 1, 2, 4);
    CHECK.due("as many, second by its number", 1, () -> x.needCalls(3, 2));
    x.call(3, 2, 0, 1);
    // 0 has 1 call; with 3 of another caller it has as many calls as 1 and 2, of more callers.
    CHECK.due("as many, more callers", 3, () -> x.needCalls(3, 0));
    x.call(3, 3, 1, 1);
    CHECK.due("5 of 2 callers ahead of 4 of 1", 2, () -> x.needCalls(3, 2));
    CHECK.due("as many of 2 callers, smaller", 4, () -> x.needCalls(3, 0));
    x.disqualify(1);
    CHECK.due("disqualified", NONE, () -> x.needCalls(3, 1));
    CHECK.due("4 of 1 caller ahead", 3, () -> x.needCalls(3, 0));
    Songnations y = lands(0, 0, 0);
    y.rules(180, 6, 1, 99, false);
    songs(y, 0, 1);
    y.start();
    y.call(2, 0, 0, 1);
    CHECK.due("the threshold aside", 0, () -> y.needCalls(2, 0));
    y.call(2, 1, 0, 1);
    CHECK.due("the limit aside", 3, () -> y.needCalls(2, 1));
    y.call(2, 2, 0, 1);
    CHECK.due("a block does not count", 1, () -> y.needCalls(2, 0));
    CHECK.due("nor against it", 1, () -> y.needCalls(2, 1));
  }

  private static void promise29() {
    Songnations x = lands(0, 0, 0, 0, 0);
    CHECK.due("without songs", NONE, () -> x.bestMove());
    x.enter(0, 2, 1, 1);
    x.enter(1, 1, 1, 9);
    CHECK.due("none is less", NONE, () -> x.bestMove());
    x.enter(2, 2, 1, 8);
    x.enter(3, 1, 1, 2);
    // 1 9 8 2: 4 + 11 + 4. One move that parts 9 and 8 makes 9 1 8 2 (4 + 3 + 4), of song 0 or of
    // song 1, or 1 9 2 8 (4 + 5 + 4), or 8 1 9 2 (3 + 4 + 5).
    CHECK.due("1 to 0", 11, () -> x.move(1, 0));
    x.move(1, 1);
    CHECK.due("0 to 1", 11, () -> x.move(0, 1));
    x.move(0, 0);
    CHECK.due("of several the smallest", 1, () -> x.bestMove());
    x.move(0, 1);
    // 9 1 8 2: 9 1 2 8 makes 4 + 0 + 4, of song 2 or of song 3.
    CHECK.due("2 to 3", 203, () -> x.bestMove());
    x.start();
    CHECK.due("in the phase 1", 203, () -> x.bestMove());
    x.move(2, 3);
    CHECK.due("8 is the least", NONE, () -> x.bestMove());
    x.move(2, 2);
    x.disqualify(2);
    CHECK.due("a disqualified song moves too", 203, () -> x.bestMove());
    CHECK.due("nothing was changed", 11, () -> x.many(5));
    x.close();
    CHECK.due("in the phase 2", NONE, () -> x.bestMove());
    Songnations y = lands(0, 0, 0, 0);
    y.enter(0, 2, 1, 1);
    y.enter(1, 1, 1, 9);
    y.enter(2, 1, 1, 9);
    y.enter(3, 2, 1, 1);
    // 1 9 | 9 1: in its half alone a song can move, so 0 to 1 is the first that makes it less.
    CHECK.due("within the halves", 1, () -> y.bestMove());
  }

  private static void promise30() {
    Songnations x = new Songnations();
    int[] ofNew = {0, 0, 0, 0, 0, 0, 0, 0, 0, -1, -1, 0, 0, -1, -1};
    long want = 58219;
    for (int number : ofNew) {
      want = want * 31 + number;
    }
    CHECK.due("digest() of a new one", want, () -> x.digest());
    String lands = "land 0 999; land 1 999; land 2 999; land 3 999; land 0 999; rules 180 6 2 3 true; ";
    String songs = "enter 0 101 1 3; enter 1 102 2 9; enter 2 103 3 8; enter 4 104 4 7; ";
    String votes = "start; " + Scenes.jurors(3, 3, 7) + Scenes.jurors(0, 2, 4)
        + "call 1 0 2 2; call 1 1 2 2; ";
    String reading = "disqualify 0; close; read 3; ";
    String end = "read 0; read 1; read 2; read 4; readCalls; readCalls; readCalls; end";
    digestIs("with lands", Scene.of(lands));
    digestIs("with songs", Scene.of(lands + songs));
    digestIs("with votes", Scene.of(lands + songs + votes));
    digestIs("in the phase 2", Scene.of(lands + songs + votes + reading));
    digestIs("in the phase 3", Scene.of(lands + songs + votes + reading + end));
  }

  /** The numbers are asked of one contest, the checksum of another one, twice. */
  private static void digestIs(String what, Scene scene) {
    long want = folded(scene.made());
    Songnations x = scene.made();
    CHECK.due("digest() " + what, want, () -> x.digest());
    CHECK.due("digest() again " + what, want, () -> x.digest());
  }

  private static long folded(Songnations x) {
    long d = 58219;
    for (int what = 0; what <= 11; what++) {
      d = d * 31 + x.many(what);
    }
    int[] order = new int[x.many(3)];
    for (int place = 0; place < order.length; place++) {
      order[place] = x.at(place);
    }
    int[] numbers = order.clone();
    java.util.Arrays.sort(numbers);
    for (int land = 0; land < x.many(2); land++) {
      for (int what = 0; what <= 10; what++) {
        d = d * 31 + x.ofLand(land, what);
      }
      d = d * 31 + x.without(land);
      for (int song : numbers) {
        d = d * 31 + x.gives(land, song, true);
        d = d * 31 + x.gives(land, song, false);
        d = d * 31 + x.needCalls(land, song);
      }
    }
    for (int song : numbers) {
      for (int what = 0; what <= 9; what++) {
        d = d * 31 + x.ofSong(song, what);
      }
    }
    for (int song : order) {
      d = d * 31 + song;
    }
    for (int rank = 0; rank < order.length - x.many(4); rank++) {
      d = d * 31 + x.ranked(rank);
    }
    d = d * 31 + (x.isOpen() ? 1 : 0);
    d = d * 31 + x.nextRead();
    return d * 31 + x.bestMove();
  }
}
