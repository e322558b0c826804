/**
 * Runs of calls, the same on every machine, on a Songnations and on a PlainContest: each answer and
 * exception, and all that can be asked behind it, must be the same.
 */
public final class ComparedRuns {
  private static final int RUNS = 1200;

  /** An object may be used for 512 calls; one step and what is asked behind it are up to 19. */
  private static final int CALLS = 512 - 19;

  /** In how many steps of a hundred all is compared. */
  private static final int[] COMPARED = {100, 30, 10, 3};

  private final Check check;
  private final Songnations x = new Songnations();
  private final PlainContest y = new PlainContest();
  private final int run;
  private final int wildness;
  private final int[] seen = new int[6];
  private long seed;
  private int calls = 0;
  private boolean isSame = true;

  private ComparedRuns(Check check, int run) {
    this.check = check;
    this.run = run;
    this.seed = run * 7919L + 17;
    // Some runs are all well told, some are full of wrong inputs.
    this.wildness = run % 4 * 8;
  }

  /** With two numbers: the runs from the first one up to, but not, the second one. */
  public static void main(String[] args) {
    Check check = new Check("ComparedRuns");
    int first = args.length == 2 ? Integer.parseInt(args[0]) : 0;
    int end = args.length == 2 ? Integer.parseInt(args[1]) : RUNS;
    int[] seen = new int[6];
    for (int run = first; run < end; run++) {
      ComparedRuns its = new ComparedRuns(check, run);
      its.play();
      for (int i = 0; i < seen.length; i++) {
        seen[i] += its.seen[i];
      }
    }
    // Runs that meet no outlier, pair, block, disqualified song, end or host would tell little.
    for (int i = 0; i < seen.length; i++) {
      boolean isSeen = seen[i] > (end - first) / 2;
      check.due("what was met, " + i, true, () -> isSeen);
    }
    check.finish();
  }

  private int below(int bound) {
    seed = seed * 6364136223846793005L + 1442695040888963407L;
    return (int) ((seed >>> 33) % bound);
  }

  private boolean chance(int percent) {
    return below(100) < percent;
  }

  /** A number of low to high, in wild runs at times one just outside, or far outside. */
  private int some(int low, int high) {
    if (high < low || below(400) < wildness) {
      int[] wrong = {low - 1, high + 1, -1, Integer.MIN_VALUE, Integer.MAX_VALUE};
      return wrong[below(wrong.length)];
    }
    return low + below(high - low + 1);
  }

  private int land() {
    return some(0, y.many(2) - 1);
  }

  private int song() {
    int songs = y.many(3);
    return songs == 0 || chance(5) ? land() : y.at(below(songs));
  }

  private void same(String call, Check.Call ofX, Check.Call ofY) {
    String want = Check.answerOf(ofY);
    String got = Check.answerOf(ofX);
    calls++;
    isSame &= got.equals(want);
    check.due("run " + run + ": " + call, want, () -> {
      if (got.startsWith("throws.")) {
        throw exception(got);
      }
      return got;
    });
  }

  private static RuntimeException exception(String got) {
    switch (got) {
      case "throws.IndexOutOfBoundsException":
        return new IndexOutOfBoundsException();
      case "throws.IllegalArgumentException":
        return new IllegalArgumentException();
      case "throws.IllegalStateException":
        return new IllegalStateException();
      default:
        return new RuntimeException(got);
    }
  }

  private void play() {
    while (calls < CALLS && isSame) {
      if (chance(wildness / 4)) {
        anyCall();
      } else {
        callOfPhase(y.many(1));
      }
      // In most runs several calls follow one another without a question.
      if (chance(COMPARED[run / 4 % 4])) {
        compareAll();
      }
      note();
    }
  }

  private void callOfPhase(int phase) {
    if (phase == 0) {
      entriesCall();
    } else if (phase == 1) {
      votesCall();
    } else if (phase == 2) {
      readingCall();
    } else {
      next();
    }
  }

  private void anyCall() {
    callOfPhase(below(4));
  }

  private void entriesCall() {
    int lands = y.many(2);
    if (lands < 2 || lands < 8 && chance(30)) {
      tellLand();
    } else if (y.many(3) == 0 && chance(40)) {
      rules();
    } else if (y.many(3) >= 2 && chance(12)) {
      same("start()", () -> x.start(), () -> y.start());
    } else if (chance(70)) {
      enter();
    } else if (chance(60)) {
      move();
    } else {
      int land = song();
      same("withdraw(" + land + ")", () -> x.withdraw(land), () -> y.withdraw(land));
    }
  }

  private void tellLand() {
    int pot = some(0, run % 3 == 0 ? 1 : 3);
    int beds = some(0, chance(50) ? 999 : 330);
    same("land(" + pot + ", " + beds + ")", () -> x.land(pot, beds), () -> y.land(pot, beds));
  }

  private void rules() {
    int length = some(60, 300);
    int people = some(1, 9);
    int limit = some(1, chance(60) ? 3 : 20);
    int threshold = some(0, chance(60) ? 8 : 99);
    boolean isAudit = chance(70);
    same("rules(" + length + ", " + people + ", " + limit + ", " + threshold + ", " + isAudit + ")",
        () -> x.rules(length, people, limit, threshold, isAudit),
        () -> y.rules(length, people, limit, threshold, isAudit));
  }

  private void enter() {
    int land = land();
    int seconds = some(1, chance(80) ? 190 : 600);
    int people = some(1, chance(80) ? 4 : 20);
    int props = some(0, 9);
    same("enter(" + land + ", " + seconds + ", " + people + ", " + props + ")",
        () -> x.enter(land, seconds, people, props), () -> y.enter(land, seconds, people, props));
  }

  private void move() {
    int land = song();
    int place = some(0, Math.max(0, y.many(3) - 1));
    same("move(" + land + ", " + place + ")",
        () -> x.move(land, place), () -> y.move(land, place));
  }

  private void votesCall() {
    int dice = below(100);
    if (dice < 45) {
      jury();
    } else if (dice < 88) {
      call();
    } else if (dice < 92) {
      move();
    } else if (dice < 95) {
      disqualify();
    } else if (chance(40)) {
      same("close()", () -> x.close(), () -> y.close());
    }
  }

  /** Often near the end or the start of all orders, so that jurors agree, and one does not. */
  private void jury() {
    int land = land();
    int juror = some(0, 4);
    int k = y.many(3) - y.many(4);
    if (land >= 0 && land < y.many(2) && isRunning(land)) {
      k--;
    }
    int orders = 1;
    for (int i = 2; i <= k; i++) {
      orders *= i;
    }
    int n = some(0, orders - 1);
    if (chance(60)) {
      n = chance(80) ? some(0, Math.min(orders - 1, 5)) : orders - 1 - below(Math.min(orders, 3));
    }
    int its = n;
    same("jury(" + land + ", " + juror + ", " + its + ")",
        () -> x.jury(land, juror, its), () -> y.jury(land, juror, its));
  }

  private boolean isRunning(int song) {
    return !Check.answerOf(() -> y.ofSong(song, 4)).startsWith("throws.") && y.ofSong(song, 4) == 0;
  }

  private void call() {
    int land = chance(50) ? some(0, Math.min(1, y.many(2) - 1)) : land();
    int caller = some(0, 9);
    int song = chance(60) && y.many(3) > 0 ? y.at(y.many(3) - 1) : song();
    int many = some(1, chance(60) ? 5 : 99);
    same("call(" + land + ", " + caller + ", " + song + ", " + many + ")",
        () -> x.call(land, caller, song, many), () -> y.call(land, caller, song, many));
  }

  private void disqualify() {
    int land = song();
    same("disqualify(" + land + ")", () -> x.disqualify(land), () -> y.disqualify(land));
  }

  private void readingCall() {
    int dice = below(100);
    int land = land();
    if (dice < 35) {
      same("read(" + land + ")", () -> x.read(land), () -> y.read(land));
    } else if (dice < 45) {
      same("fail(" + land + ")", () -> x.fail(land), () -> y.fail(land));
    } else if (dice < 55) {
      same("correct(" + land + ")", () -> x.correct(land), () -> y.correct(land));
    } else if (dice < 58) {
      disqualify();
    } else if (dice < 85) {
      same("readCalls()", () -> x.readCalls(), () -> y.readCalls());
    } else {
      same("end()", () -> x.end(), () -> y.end());
    }
  }

  private void next() {
    same("next()", () -> x.next(), () -> y.next());
  }

  private void compareAll() {
    firstQuestion();
    same("digest()", () -> x.digest(), () -> y.digest());
    if (!isSame) {
      compareEach();
    }
    same("meanTotal()", () -> x.meanTotal(), () -> y.meanTotal());
    compareOne();
  }

  /** Each question must be right as the first one behind a change too. */
  private void firstQuestion() {
    int dice = below(4);
    if (dice == 0) {
      same("nextRead()", () -> x.nextRead(), () -> y.nextRead());
    } else if (dice == 1) {
      same("isOpen()", () -> x.isOpen(), () -> y.isOpen());
    } else if (dice == 2) {
      same("bestMove()", () -> x.bestMove(), () -> y.bestMove());
    } else {
      compareOne();
    }
  }

  /** One question more each time, with inputs that can be wrong. */
  private void compareOne() {
    int land = land();
    int song = song();
    int what = some(0, 11);
    boolean isJury = chance(50);
    same("ofLand(" + land + ", " + what + ")",
        () -> x.ofLand(land, what), () -> y.ofLand(land, what));
    same("ofSong(" + song + ", " + what + ")",
        () -> x.ofSong(song, what), () -> y.ofSong(song, what));
    same("gives(" + land + ", " + song + ", " + isJury + ")",
        () -> x.gives(land, song, isJury), () -> y.gives(land, song, isJury));
    same("at(" + what + ")", () -> x.at(what), () -> y.at(what));
    same("ranked(" + what + ")", () -> x.ranked(what), () -> y.ranked(what));
    same("many(" + what + ")", () -> x.many(what), () -> y.many(what));
    same("without(" + land + ")", () -> x.without(land), () -> y.without(land));
    same("needCalls(" + land + ", " + song + ")",
        () -> x.needCalls(land, song), () -> y.needCalls(land, song));
  }

  private void compareEach() {
    for (int i = 0; i < 12; i++) {
      int what = i;
      same("many(" + what + ")", () -> x.many(what), () -> y.many(what));
    }
    for (int i = 0; i < 8; i++) {
      int land = i;
      for (int j = 0; j < 11; j++) {
        int what = j;
        same("ofLand(" + land + ", " + what + ")",
            () -> x.ofLand(land, what), () -> y.ofLand(land, what));
        same("ofSong(" + land + ", " + what + ")",
            () -> x.ofSong(land, what), () -> y.ofSong(land, what));
      }
      same("without(" + land + ")", () -> x.without(land), () -> y.without(land));
      same("at(" + land + ")", () -> x.at(land), () -> y.at(land));
      same("ranked(" + land + ")", () -> x.ranked(land), () -> y.ranked(land));
      for (int j = 0; j < 8; j++) {
        int song = j;
        same("gives(" + land + ", " + song + ", true)",
            () -> x.gives(land, song, true), () -> y.gives(land, song, true));
        same("gives(" + land + ", " + song + ", false)",
            () -> x.gives(land, song, false), () -> y.gives(land, song, false));
        same("needCalls(" + land + ", " + song + ")",
            () -> x.needCalls(land, song), () -> y.needCalls(land, song));
      }
    }
    same("isOpen()", () -> x.isOpen(), () -> y.isOpen());
    same("nextRead()", () -> x.nextRead(), () -> y.nextRead());
    same("bestMove()", () -> x.bestMove(), () -> y.bestMove());
  }

  private void note() {
    for (int land = 0; land < y.many(2); land++) {
      seen[0] += y.ofLand(land, 4) != -1 ? 1 : 0;
      seen[1] += y.ofLand(land, 5) == 1 && y.ofLand(land, 3) > 1 ? 1 : 0;
      seen[2] += y.ofLand(land, 7) > 0 ? 1 : 0;
    }
    seen[3] += y.many(4) > 0 ? 1 : 0;
    seen[4] += y.many(1) == 3 ? 1 : 0;
    seen[5] += y.many(9) >= 0 ? 1 : 0;
  }
}
