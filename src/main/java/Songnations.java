/**
 * A contest of songs among lands: see ../shared/DOC.md for what each call promises.
 *
 * <p>All rows are made once, in the constructors, and used again: no call makes an object but the
 * exceptions that it throws.
 */
public final class Songnations {
  private static final int NONE = -1;
  private static final int TOO_LONG = -2;
  private static final int TOO_MANY_PEOPLE = -3;

  private static final int LANDS = 8;
  private static final int JURORS = 5;
  private static final int CALLERS = 10;
  private static final int LAST_YEAR = 20;

  private static final int ENTRIES = 0;
  private static final int VOTES = 1;
  private static final int READING = 2;
  private static final int END = 3;

  private static final int FEE = 10;
  private static final int PRIZE = 50;
  private static final int HOSTING = 60;
  private static final int BEDS_A_SONG = 40;
  private static final int FREE_PROPS = 6;
  private static final int TOP = 12;

  private static final int[] WEIGHTS = {12, 10, 8, 7, 6, 5, 4};

  private final Rules book;
  private final Lands lands;
  private final Songs songs;
  private final Stage stage;
  private final Ballots ballots;
  private final Juries juries;
  private final Phones phones;
  private final Ranking ranking;
  private final Board board;
  private int year;
  private int phase;
  private int winner;
  private int winnerBefore;
  private int host;
  private int corrections;
  private boolean isCounted;

  public Songnations() {
    Lands itsLands = new Lands();
    Songs itsSongs = new Songs();
    Stage itsStage = new Stage(itsSongs);
    Ballots itsBallots = new Ballots(itsSongs);
    Juries itsJuries = new Juries(itsLands, itsSongs, itsBallots);
    Phones itsPhones = new Phones(itsSongs);
    book = new Rules();
    lands = itsLands;
    songs = itsSongs;
    stage = itsStage;
    ballots = itsBallots;
    juries = itsJuries;
    phones = itsPhones;
    ranking = new Ranking(itsSongs, itsStage, itsJuries, itsPhones);
    board = new Board(itsLands, itsSongs);
    year = 0;
    phase = ENTRIES;
    winner = NONE;
    winnerBefore = NONE;
    host = NONE;
    corrections = 0;
    isCounted = false;
  }

  // ---- entries

  public int land(int pot, int beds) throws IllegalArgumentException, IllegalStateException {
    if (!isWithin(pot, 0, 3) || !isWithin(beds, 0, 999)) {
      throw new IllegalArgumentException("pot is 0 to 3, beds are 0 to 999");
    }
    needPhase(ENTRIES);
    if (lands.count >= LANDS) {
      throw new IllegalStateException("there are 8 lands");
    }
    isCounted = false;
    return lands.add(pot, beds);
  }

  public int rules(int length, int people, int limit, int threshold, boolean isAudit)
      throws IllegalArgumentException, IllegalStateException {
    if (!isWithin(length, 60, 300) || !isWithin(people, 1, 9)) {
      throw new IllegalArgumentException("length is 60 to 300, people are 1 to 9");
    }
    if (!isWithin(limit, 1, 20) || !isWithin(threshold, 0, 99)) {
      throw new IllegalArgumentException("limit is 1 to 20, threshold 0 to 99");
    }
    needPhase(ENTRIES);
    if (songs.count > 0) {
      throw new IllegalStateException("there is a song");
    }
    int before = book.length;
    book.length = length;
    book.people = people;
    book.limit = limit;
    book.threshold = threshold;
    book.isAudit = isAudit;
    isCounted = false;
    return before;
  }

  public int enter(int land, int seconds, int people, int props)
      throws IndexOutOfBoundsException, IllegalArgumentException, IllegalStateException {
    needLand(land);
    if (!isWithin(seconds, 1, 600) || !isWithin(people, 1, 20) || !isWithin(props, 0, 9)) {
      throw new IllegalArgumentException("seconds are 1 to 600, people 1 to 20, props 0 to 9");
    }
    needPhase(ENTRIES);
    if (songs.isIn[land]) {
      throw new IllegalStateException("the land has a song");
    }
    if (seconds > book.length) {
      return TOO_LONG;
    }
    if (people > book.people) {
      return TOO_MANY_PEOPLE;
    }
    int half = (7 * land + 3 * year + seconds) % 2;
    songs.add(land, seconds, props, half);
    stage.insert(land);
    lands.money[land] -= FEE;
    isCounted = false;
    return half;
  }

  public int withdraw(int land) throws IndexOutOfBoundsException, IllegalStateException {
    needLand(land);
    needPhase(ENTRIES);
    if (!songs.isIn[land]) {
      throw new IllegalStateException("the land has no song");
    }
    stage.remove(land);
    songs.remove(land);
    isCounted = false;
    return songs.count;
  }

  public int move(int land, int place)
      throws IndexOutOfBoundsException, IllegalArgumentException, IllegalStateException {
    needLand(land);
    if (!isWithin(place, 0, songs.count - 1)) {
      throw new IllegalArgumentException("there is no such place");
    }
    if (!canMove() || !songs.isIn[land] || !stage.isOfHalf(land, place)) {
      throw new IllegalStateException("the song can not be moved there now");
    }
    stage.shift(land, place);
    isCounted = false;
    return stage.delay();
  }

  public int start() throws IllegalStateException {
    needPhase(ENTRIES);
    if (songs.count < 2) {
      throw new IllegalStateException("there are fewer than 2 songs");
    }
    phase = VOTES;
    return songs.count;
  }

  // ---- votes

  public int jury(int land, int juror, int n)
      throws IndexOutOfBoundsException, IllegalArgumentException, IllegalStateException {
    needLand(land);
    if (!isWithin(juror, 0, JURORS - 1)) {
      throw new IndexOutOfBoundsException("jurors are 0 to 4");
    }
    if (!isWithin(n, 0, ordersOf(songs.candidatesOf(land)) - 1)) {
      throw new IllegalArgumentException("there is no order with that number");
    }
    needPhase(VOTES);
    ballots.write(land, juror, n);
    isCounted = false;
    return ballots.firstOn(land, juror);
  }

  public int call(int land, int caller, int song, int many)
      throws IndexOutOfBoundsException, IllegalArgumentException, IllegalStateException {
    needLand(land);
    needSong(song);
    if (!isWithin(caller, 0, CALLERS - 1)) {
      throw new IndexOutOfBoundsException("callers are 0 to 9");
    }
    if (!songs.isCandidate(land, song) || !isWithin(many, 1, 99)) {
      throw new IllegalArgumentException("the song is no candidate, or many is not 1 to 99");
    }
    needPhase(VOTES);
    isCounted = false;
    return phones.take(land, caller, song, many, book.limit);
  }

  public int disqualify(int land) throws IndexOutOfBoundsException, IllegalStateException {
    needLand(land);
    needSong(land);
    if (phase != VOTES && phase != READING) {
      throw new IllegalStateException("it is not the phase 1 or 2");
    }
    if (songs.isOut[land] || songs.running() < 3) {
      throw new IllegalStateException("it is disqualified, or fewer than 3 are not");
    }
    songs.putOut(land);
    ballots.takeOut(land);
    board.wipe(land);
    isCounted = false;
    return songs.running();
  }

  public int close() throws IllegalStateException {
    needPhase(VOTES);
    phase = READING;
    count();
    return voidJuries();
  }

  // ---- reading

  public int fail(int land) throws IndexOutOfBoundsException, IllegalStateException {
    needLand(land);
    needPhase(READING);
    if (board.isRead[land] || board.readableBeside(land) == 0) {
      throw new IllegalStateException("it was read, or no land could be read then");
    }
    board.isDown[land] = true;
    return board.readableBeside(land);
  }

  public int read(int land) throws IndexOutOfBoundsException, IllegalStateException {
    needLand(land);
    needPhase(READING);
    if (!board.canRead(land)) {
      throw new IllegalStateException("it was read, or its line failed");
    }
    count();
    board.takeLand(land, juries.points[land]);
    return juries.topOf(land);
  }

  public int readCalls() throws IllegalStateException {
    needPhase(READING);
    int song = board.nextSong();
    if (board.landsRead < lands.count || song == NONE) {
      throw new IllegalStateException("a land was not read, or there is no next song");
    }
    count();
    int points = ranking.callPoints[song];
    board.takeCalls(song, points);
    return 1000 * song + points;
  }

  public int correct(int land) throws IndexOutOfBoundsException, IllegalStateException {
    needLand(land);
    needPhase(READING);
    if (!board.isRead[land]) {
      throw new IllegalStateException("it was not read");
    }
    count();
    corrections++;
    return board.put(land, juries.points[land]);
  }

  public int end() throws IllegalStateException {
    needPhase(READING);
    if (board.landsRead < lands.count || board.nextSong() != NONE) {
      throw new IllegalStateException("not all was read");
    }
    count();
    phase = END;
    winner = ranking.songAt(0);
    if (winner != NONE) {
      lands.money[winner] += PRIZE;
      lands.wins[winner]++;
    }
    host = findHost();
    if (host != NONE) {
      lands.money[host] -= HOSTING;
      lands.hostings[host]++;
    }
    return winner;
  }

  public int next() throws IllegalStateException {
    needPhase(END);
    if (year >= LAST_YEAR) {
      throw new IllegalStateException("it is the last year");
    }
    year++;
    phase = ENTRIES;
    winnerBefore = winner;
    host = NONE;
    songs.clear();
    stage.clear();
    ballots.clear();
    phones.clear();
    board.clear();
    isCounted = false;
    return year;
  }

  // ---- what is asked

  public int ofLand(int land, int what) throws IndexOutOfBoundsException, IllegalArgumentException {
    needLand(land);
    if (!isWithin(what, 0, 10)) {
      throw new IllegalArgumentException("what is 0 to 10");
    }
    count();
    return numberOfLand(land, what);
  }

  public int ofSong(int land, int what) throws IndexOutOfBoundsException, IllegalArgumentException {
    needLand(land);
    needSong(land);
    if (!isWithin(what, 0, 9)) {
      throw new IllegalArgumentException("what is 0 to 9");
    }
    count();
    return numberOfSong(land, what);
  }

  public int gives(int land, int song, boolean isJury) throws IndexOutOfBoundsException {
    needLand(land);
    needSong(song);
    count();
    return isJury ? juries.points[land][song] : phones.points[land][song];
  }

  public int at(int place) throws IndexOutOfBoundsException {
    if (!isWithin(place, 0, stage.count - 1)) {
      throw new IndexOutOfBoundsException("there is no such place");
    }
    return stage.order[place];
  }

  public int ranked(int rank) throws IndexOutOfBoundsException {
    if (!isWithin(rank, 0, songs.running() - 1)) {
      throw new IndexOutOfBoundsException("there is no such rank");
    }
    count();
    return ranking.songAt(rank);
  }

  public int many(int what) throws IllegalArgumentException {
    if (!isWithin(what, 0, 11)) {
      throw new IllegalArgumentException("what is 0 to 11");
    }
    count();
    return numberOfContest(what);
  }

  public double meanTotal() {
    count();
    int running = songs.running();
    if (running <= 0) {
      return 0.0;
    }
    return (double) ranking.sumOfTotals() / (double) running;
  }

  // ---- what would be (nothing is changed)

  public boolean isOpen() {
    return canStillChange();
  }

  public int nextRead() {
    count();
    return closestLand();
  }

  public int without(int land) throws IndexOutOfBoundsException {
    needLand(land);
    count();
    return ranking.leaderWithout(land);
  }

  public int needCalls(int land, int song) throws IndexOutOfBoundsException {
    needLand(land);
    needSong(song);
    count();
    return phones.needed(land, song);
  }

  public int bestMove() {
    return canMove() ? stage.bestShift() : NONE;
  }

  public long digest() {
    count();
    long d = 58219L;
    for (int what = 0; what <= 11; what++) {
      d = d * 31 + numberOfContest(what);
    }
    for (int land = 0; land < lands.count; land++) {
      d = digestOfLand(d, land);
    }
    for (int song = 0; song < LANDS; song++) {
      for (int what = 0; songs.isIn[song] && what <= 9; what++) {
        d = d * 31 + numberOfSong(song, what);
      }
    }
    for (int place = 0; place < stage.count; place++) {
      d = d * 31 + stage.order[place];
    }
    for (int rank = 0; rank < ranking.count; rank++) {
      d = d * 31 + ranking.order[rank];
    }
    d = d * 31 + (canStillChange() ? 1 : 0);
    d = d * 31 + closestLand();
    return d * 31 + (canMove() ? stage.bestShift() : NONE);
  }

  // ---- what the calls above share

  private long digestOfLand(long before, int land) {
    long d = before;
    for (int what = 0; what <= 10; what++) {
      d = d * 31 + numberOfLand(land, what);
    }
    d = d * 31 + ranking.leaderWithout(land);
    for (int song = 0; song < LANDS; song++) {
      if (songs.isIn[song]) {
        d = d * 31 + juries.points[land][song];
        d = d * 31 + phones.points[land][song];
        d = d * 31 + phones.needed(land, song);
      }
    }
    return d;
  }

  // This one and the next two are asked for behind count().
  private int numberOfLand(int land, int what) {
    switch (what) {
      case 0:
        return lands.pot[land];
      case 1:
        return lands.beds[land];
      case 2:
        return lands.money[land];
      case 3:
        return ballots.given(land);
      case 4:
        return juries.outlier[land];
      case 5:
        return juries.isVoid[land] ? 1 : 0;
      case 6:
        return phones.inAll[land];
      case 7:
        return phones.inBlocks[land];
      case 8:
        return board.isRead[land] ? 1 : 0;
      case 9:
        return lands.wins[land];
      default:
        return lands.hostings[land];
    }
  }

  private int numberOfSong(int song, int what) {
    switch (what) {
      case 0:
        return songs.seconds[song];
      case 1:
        return songs.props[song];
      case 2:
        return songs.half[song];
      case 3:
        return stage.placeOf(song);
      case 4:
        return songs.isOut[song] ? 1 : 0;
      case 5:
        return ranking.juryPoints[song];
      case 6:
        return ranking.callPoints[song];
      case 7:
        return ranking.juryPoints[song] + ranking.callPoints[song];
      case 8:
        return ranking.rankOf(song);
      default:
        return board.juryOf(song) + board.calls[song];
    }
  }

  private int numberOfContest(int what) {
    switch (what) {
      case 0:
        return year;
      case 1:
        return phase;
      case 2:
        return lands.count;
      case 3:
        return songs.count;
      case 4:
        return songs.outCount;
      case 5:
        return stage.delay();
      case 6:
        return voidJuries();
      case 7:
        return board.landsRead;
      case 8:
        return board.songsRead;
      case 9:
        return host;
      case 10:
        return winnerBefore;
      default:
        return corrections;
    }
  }

  private boolean canStillChange() {
    return phase == READING && board.landsRead < lands.count && board.hopefuls() > 1;
  }

  private int closestLand() {
    int best = NONE;
    int least = 0;
    for (int land = 0; phase == READING && land < lands.count; land++) {
      if (board.canRead(land)) {
        int lead = board.leadWith(juries.points[land]);
        if (best == NONE || lead < least) {
          best = land;
          least = lead;
        }
      }
    }
    return best;
  }

  private void needLand(int land) {
    if (!isWithin(land, 0, lands.count - 1)) {
      throw new IndexOutOfBoundsException("there is no such land");
    }
  }

  private void needSong(int song) {
    if (!isWithin(song, 0, LANDS - 1) || !songs.isIn[song]) {
      throw new IndexOutOfBoundsException("there is no such song in this year");
    }
  }

  private void needPhase(int wanted) {
    if (phase != wanted) {
      throw new IllegalStateException("it is another phase");
    }
  }

  private boolean canMove() {
    return phase == ENTRIES || phase == VOTES;
  }

  // Points are only found when they are asked for: most calls of a year come between two questions.
  private void count() {
    if (isCounted) {
      return;
    }
    juries.countAll(book.isAudit);
    for (int land = 0; land < lands.count; land++) {
      phones.countLand(land, book.limit);
      phones.givePoints(land, book.threshold, juries.points[land]);
    }
    ranking.countAll();
    isCounted = true;
  }

  private int voidJuries() {
    int sum = 0;
    for (int land = 0; land < lands.count; land++) {
      sum += juries.isVoid[land] ? 1 : 0;
    }
    return sum;
  }

  private int findHost() {
    for (int rank = 0; rank < songs.running(); rank++) {
      int land = ranking.songAt(rank);
      if (land != NONE && lands.beds[land] >= BEDS_A_SONG * songs.count) {
        return land;
      }
    }
    return NONE;
  }

  private static boolean isWithin(int value, int low, int high) {
    return value >= low && value <= high;
  }

  private static int weight(int place) {
    return place >= 0 && place < WEIGHTS.length ? WEIGHTS[place] : 0;
  }

  private static int ordersOf(int candidates) {
    int orders = 1;
    for (int k = 2; k <= candidates; k++) {
      orders *= k;
    }
    return orders;
  }

  // Equals stay as they came: a row that comes in by numbers has the smaller one ahead then.
  private static void sortDown(int[] row, int size, int[] keys) {
    for (int i = 1; i < size; i++) {
      int song = row[i];
      int place = i;
      for (; place > 0 && keys[row[place - 1]] < keys[song]; place--) {
        row[place] = row[place - 1];
      }
      row[place] = song;
    }
  }

  /** The RULES, which stay from YEAR to YEAR. */
  private static final class Rules {
    int length = 180;
    int people = 6;
    int limit = 10;
    int threshold = 10;
    boolean isAudit = false;
  }

  /** What a LAND keeps from YEAR to YEAR. */
  private static final class Lands {
    int count = 0;
    final int[] pot = new int[LANDS];
    final int[] beds = new int[LANDS];
    final int[] money = new int[LANDS];
    final int[] wins = new int[LANDS];
    final int[] hostings = new int[LANDS];

    int add(int itsPot, int itsBeds) {
      if (count >= LANDS) {
        return NONE;
      }
      pot[count] = itsPot;
      beds[count] = itsBeds;
      money[count] = 100;
      count++;
      return count - 1;
    }
  }

  /** The SONGS of this YEAR, by the numbers of their LANDS. */
  private static final class Songs {
    int count = 0;
    int outCount = 0;
    final boolean[] isIn = new boolean[LANDS];
    final boolean[] isOut = new boolean[LANDS];
    final int[] seconds = new int[LANDS];
    final int[] props = new int[LANDS];
    final int[] half = new int[LANDS];

    void add(int song, int itsSeconds, int itsProps, int itsHalf) {
      isIn[song] = true;
      seconds[song] = itsSeconds;
      props[song] = itsProps;
      half[song] = itsHalf;
      count++;
    }

    void remove(int song) {
      isIn[song] = false;
      count--;
    }

    void putOut(int song) {
      isOut[song] = true;
      outCount++;
    }

    void clear() {
      for (int song = 0; song < LANDS; song++) {
        isIn[song] = false;
        isOut[song] = false;
      }
      count = 0;
      outCount = 0;
    }

    int running() {
      return count - outCount;
    }

    boolean isRunning(int song) {
      return isIn[song] && !isOut[song];
    }

    boolean isCandidate(int land, int song) {
      return song != land && isIn[song] && !isOut[song];
    }

    int candidatesOf(int land) {
      return running() - (isRunning(land) ? 1 : 0);
    }

    // Writes them by numbers, and returns how many they are.
    int writeCandidates(int land, int[] row) {
      int size = 0;
      for (int song = 0; song < LANDS; song++) {
        if (isCandidate(land, song)) {
          row[size] = song;
          size++;
        }
      }
      return size;
    }
  }

  /** The ORDER of the SONGS: those of HALF 0 ahead of those of HALF 1. */
  private static final class Stage {
    final Songs songs;
    final int[] order = new int[LANDS];
    final int[] trial = new int[LANDS];
    int count = 0;
    int ofFirstHalf = 0;

    Stage(Songs songs) {
      this.songs = songs;
    }

    void insert(int song) {
      if (count >= LANDS) {
        return;
      }
      boolean isFirstHalf = songs.half[song] == 0;
      int place = isFirstHalf ? ofFirstHalf : count;
      for (int i = count; i > place; i--) {
        order[i] = order[i - 1];
      }
      order[place] = song;
      count++;
      ofFirstHalf += isFirstHalf ? 1 : 0;
    }

    void remove(int song) {
      int place = placeOf(song);
      if (place == NONE) {
        return;
      }
      for (int i = place; i < count - 1; i++) {
        order[i] = order[i + 1];
      }
      count--;
      ofFirstHalf -= songs.half[song] == 0 ? 1 : 0;
    }

    void clear() {
      count = 0;
      ofFirstHalf = 0;
    }

    int placeOf(int song) {
      for (int place = 0; place < count; place++) {
        if (order[place] == song) {
          return place;
        }
      }
      return NONE;
    }

    boolean isOfHalf(int song, int place) {
      return songs.half[song] == 0 ? place < ofFirstHalf : place >= ofFirstHalf;
    }

    void shift(int song, int place) {
      writeTrial(song, place);
      for (int i = 0; i < count; i++) {
        order[i] = trial[i];
      }
    }

    int delay() {
      return delayOf(order);
    }

    // 100 times the song and its new place; those of smaller numbers are tried first.
    int bestShift() {
      int best = NONE;
      int least = delay();
      for (int song = 0; song < LANDS; song++) {
        for (int place = 0; songs.isIn[song] && place < count; place++) {
          int delay = isOfHalf(song, place) ? delayWith(song, place) : least;
          if (delay < least) {
            least = delay;
            best = 100 * song + place;
          }
        }
      }
      return best;
    }

    private int delayWith(int song, int place) {
      writeTrial(song, place);
      return delayOf(trial);
    }

    private void writeTrial(int song, int place) {
      int from = 0;
      for (int i = 0; i < count; i++) {
        if (i == place) {
          trial[i] = song;
        } else {
          if (from < count && order[from] == song) {
            from++;
          }
          trial[i] = from < count ? order[from] : song;
          from++;
        }
      }
    }

    private int delayOf(int[] row) {
      int sum = 0;
      for (int i = 1; i < count; i++) {
        int props = songs.props[row[i - 1]] + songs.props[row[i]];
        sum += Math.max(0, props - FREE_PROPS);
      }
      return sum;
    }
  }

  /** The BALLOTS: for each LAND and JUROR a row of CANDIDATES. */
  private static final class Ballots {
    final Songs songs;
    final int[][] rows = new int[LANDS * JURORS][LANDS];
    final int[] sizes = new int[LANDS * JURORS];
    final boolean[] isGiven = new boolean[LANDS * JURORS];
    final int[] left = new int[LANDS];

    Ballots(Songs songs) {
      this.songs = songs;
    }

    static int numberOf(int land, int juror) {
      return land * JURORS + juror;
    }

    // Of k candidates that are left, each one leads ordersOf(k - 1) orders in a row.
    void write(int land, int juror, int n) {
      int ballot = numberOf(land, juror);
      int size = songs.writeCandidates(land, left);
      int rest = n;
      for (int place = 0; place < size; place++) {
        int last = size - 1 - place;
        int orders = ordersOf(last);
        int pick = 0;
        for (; pick < last && rest >= orders; pick++) {
          rest -= orders;
        }
        rows[ballot][place] = left[pick];
        for (int i = pick; i < last; i++) {
          left[i] = left[i + 1];
        }
      }
      sizes[ballot] = size;
      isGiven[ballot] = true;
    }

    void takeOut(int song) {
      for (int ballot = 0; ballot < LANDS * JURORS; ballot++) {
        int kept = 0;
        for (int place = 0; place < sizes[ballot]; place++) {
          if (rows[ballot][place] != song) {
            rows[ballot][kept] = rows[ballot][place];
            kept++;
          }
        }
        sizes[ballot] = kept;
      }
    }

    void clear() {
      for (int ballot = 0; ballot < LANDS * JURORS; ballot++) {
        isGiven[ballot] = false;
        sizes[ballot] = 0;
      }
    }

    int given(int land) {
      int sum = 0;
      for (int juror = 0; juror < JURORS; juror++) {
        sum += isGiven[numberOf(land, juror)] ? 1 : 0;
      }
      return sum;
    }

    int firstOn(int land, int juror) {
      int ballot = numberOf(land, juror);
      return sizes[ballot] > 0 ? rows[ballot][0] : NONE;
    }

    void addWeights(int land, int juror, int[] sums) {
      int ballot = numberOf(land, juror);
      for (int place = 0; place < sizes[ballot]; place++) {
        sums[rows[ballot][place]] += weight(place);
      }
    }

    int distance(int land, int juror, int[] places) {
      int ballot = numberOf(land, juror);
      int sum = 0;
      for (int place = 0; place < sizes[ballot]; place++) {
        sum += Math.abs(place - places[rows[ballot][place]]);
      }
      return sum;
    }
  }

  /** What the JURIES make of their BALLOTS. */
  private static final class Juries {
    final Lands lands;
    final Songs songs;
    final Ballots ballots;
    final int[][] sums = new int[LANDS][LANDS];
    final int[][] orders = new int[LANDS][LANDS];
    final int[][] points = new int[LANDS][LANDS];
    final int[] sizes = new int[LANDS];
    final int[] outlier = new int[LANDS];
    final boolean[] isVoid = new boolean[LANDS];
    final int[] praised = new int[LANDS];
    final int[] places = new int[LANDS];

    Juries(Lands lands, Songs songs, Ballots ballots) {
      this.lands = lands;
      this.songs = songs;
      this.ballots = ballots;
    }

    void countAll(boolean isAudit) {
      for (int land = 0; land < lands.count; land++) {
        countLand(land);
      }
      if (isAudit) {
        voidPairs();
      }
      for (int land = 0; land < lands.count; land++) {
        if (isVoid[land]) {
          borrowSums(land);
          sortCandidates(land);
        }
      }
      for (int land = 0; land < lands.count; land++) {
        givePoints(land);
      }
    }

    private void countLand(int land) {
      int given = ballots.given(land);
      isVoid[land] = given < 2;
      outlier[land] = NONE;
      addBallots(land);
      sortCandidates(land);
      if (given >= 3) {
        outlier[land] = findOutlier(land);
      }
      if (outlier[land] != NONE) {
        addBallots(land);
        sortCandidates(land);
      }
      praised[land] = findPraised(land);
    }

    private boolean isCounting(int land, int juror) {
      return ballots.isGiven[Ballots.numberOf(land, juror)] && juror != outlier[land];
    }

    private void addBallots(int land) {
      clearRow(sums[land]);
      for (int juror = 0; juror < JURORS; juror++) {
        if (isCounting(land, juror)) {
          ballots.addWeights(land, juror, sums[land]);
        }
      }
    }

    private void sortCandidates(int land) {
      sizes[land] = songs.writeCandidates(land, orders[land]);
      sortDown(orders[land], sizes[land], sums[land]);
    }

    private int findOutlier(int land) {
      for (int place = 0; place < sizes[land]; place++) {
        places[orders[land][place]] = place;
      }
      int farthest = NONE;
      int most = 0;
      for (int juror = 0; juror < JURORS; juror++) {
        int distance = isCounting(land, juror) ? ballots.distance(land, juror, places) : 0;
        if (distance > most) {
          most = distance;
          farthest = juror;
        }
      }
      return 2 * most > 3 * sizes[land] ? farthest : NONE;
    }

    // The song that is first, if 3 ballots or more that count have it first too.
    private int findPraised(int land) {
      int first = sizes[land] > 0 ? orders[land][0] : NONE;
      int praising = 0;
      for (int juror = 0; juror < JURORS; juror++) {
        if (isCounting(land, juror) && ballots.firstOn(land, juror) == first) {
          praising++;
        }
      }
      return praising >= 3 ? first : NONE;
    }

    private void voidPairs() {
      for (int land = 0; land < lands.count; land++) {
        int other = praised[land];
        if (other != NONE && praised[other] == land) {
          isVoid[land] = true;
        }
      }
    }

    private void borrowSums(int land) {
      clearRow(sums[land]);
      for (int other = 0; other < lands.count; other++) {
        if (!isVoid[other] && lands.pot[other] == lands.pot[land]) {
          addCandidates(land, other);
        }
      }
    }

    private void addCandidates(int land, int other) {
      for (int song = 0; song < LANDS; song++) {
        if (songs.isCandidate(land, song) && songs.isCandidate(other, song)) {
          sums[land][song] += sums[other][song];
        }
      }
    }

    private void givePoints(int land) {
      clearRow(points[land]);
      for (int place = 0; place < sizes[land]; place++) {
        int song = orders[land][place];
        points[land][song] = sums[land][song] > 0 ? weight(place) : 0;
      }
    }

    int topOf(int land) {
      for (int song = 0; song < LANDS; song++) {
        if (points[land][song] == TOP) {
          return song;
        }
      }
      return NONE;
    }

    private static void clearRow(int[] row) {
      for (int i = 0; i < row.length; i++) {
        row[i] = 0;
      }
    }
  }

  /** The calls, and what they make. */
  private static final class Phones {
    final Songs songs;
    final int[][] told = new int[LANDS * CALLERS][LANDS];
    final int[] used = new int[LANDS * CALLERS];
    final int[][] calls = new int[LANDS][LANDS];
    final int[][] callers = new int[LANDS][LANDS];
    final int[][] points = new int[LANDS][LANDS];
    final int[] inAll = new int[LANDS];
    final int[] inBlocks = new int[LANDS];
    final int[] firsts = new int[LANDS];
    final int[] row = new int[LANDS];
    final int[] keys = new int[LANDS];

    Phones(Songs songs) {
      this.songs = songs;
    }

    private static int lineOf(int land, int caller) {
      return land * CALLERS + caller;
    }

    int take(int land, int caller, int song, int many, int limit) {
      int line = lineOf(land, caller);
      int taken = Math.max(0, Math.min(many, limit - used[line]));
      used[line] += taken;
      told[line][song] += taken;
      return taken;
    }

    void clear() {
      for (int line = 0; line < LANDS * CALLERS; line++) {
        used[line] = 0;
        for (int song = 0; song < LANDS; song++) {
          told[line][song] = 0;
        }
      }
    }

    void countLand(int land, int limit) {
      inAll[land] = 0;
      inBlocks[land] = 0;
      for (int song = 0; song < LANDS; song++) {
        countSong(land, song, limit);
        if (songs.isCandidate(land, song)) {
          inAll[land] += calls[land][song];
        }
      }
    }

    // A caller with LIMIT calls for one song has none left for another: it is in one block at most.
    private void countSong(int land, int song, int limit) {
      int full = fullCallers(land, song, limit);
      boolean isBlock = full >= 3;
      inBlocks[land] += isBlock ? full : 0;
      calls[land][song] = 0;
      callers[land][song] = 0;
      for (int caller = 0; caller < CALLERS; caller++) {
        int many = told[lineOf(land, caller)][song];
        if (many > 0 && !(isBlock && many == limit)) {
          calls[land][song] += many;
          callers[land][song]++;
        }
      }
    }

    private int fullCallers(int land, int song, int limit) {
      int full = 0;
      for (int caller = 0; caller < CALLERS; caller++) {
        full += told[lineOf(land, caller)][song] == limit ? 1 : 0;
      }
      return full;
    }

    void givePoints(int land, int threshold, int[] juryPoints) {
      int size = songs.writeCandidates(land, row);
      for (int song = 0; song < LANDS; song++) {
        // There are 10 callers at most, so calls come first in the key.
        keys[song] = calls[land][song] * 16 + callers[land][song];
        points[land][song] = 0;
      }
      sortDown(row, size, keys);
      firsts[land] = size > 0 && calls[land][row[0]] > 0 ? row[0] : NONE;
      boolean isJurys = inAll[land] < threshold;
      for (int place = 0; place < size; place++) {
        int song = row[place];
        int byCalls = calls[land][song] > 0 ? weight(place) : 0;
        points[land][song] = isJurys ? juryPoints[song] : byCalls;
      }
    }

    // The calls would be those of one caller more.
    int needed(int land, int song) {
      if (!songs.isCandidate(land, song)) {
        return NONE;
      }
      if (firsts[land] == song) {
        return 0;
      }
      int need = 1;
      for (int other = 0; other < LANDS; other++) {
        if (other != song && songs.isCandidate(land, other)) {
          int gap = calls[land][other] - calls[land][song];
          need = Math.max(need, winsTie(land, song, other) ? gap : gap + 1);
        }
      }
      return need;
    }

    private boolean winsTie(int land, int song, int other) {
      int mine = callers[land][song] + 1;
      int its = callers[land][other];
      return mine > its || (mine == its && song < other);
    }
  }

  /** The points that the SONGS have, and their RANKS. */
  private static final class Ranking {
    final Songs songs;
    final Stage stage;
    final Juries juries;
    final Phones phones;
    final int[] juryPoints = new int[LANDS];
    final int[] callPoints = new int[LANDS];
    final int[] order = new int[LANDS];
    final int[] keys = new int[LANDS];
    int count = 0;

    Ranking(Songs songs, Stage stage, Juries juries, Phones phones) {
      this.songs = songs;
      this.stage = stage;
      this.juries = juries;
      this.phones = phones;
    }

    void countAll() {
      count = 0;
      for (int song = 0; song < LANDS; song++) {
        juryPoints[song] = 0;
        callPoints[song] = 0;
        if (songs.isRunning(song)) {
          addPoints(song);
          keys[song] = keyWithout(song, NONE);
          order[count] = song;
          count++;
        }
      }
      sortDown(order, count, keys);
    }

    // Of lands that do not exist, and of a song's own one, all points are 0.
    private void addPoints(int song) {
      for (int land = 0; land < LANDS; land++) {
        juryPoints[song] += juries.points[land][song];
        callPoints[song] += phones.points[land][song];
      }
    }

    // TOTAL, CALL POINTS, LANDS that gave some, LANDS that gave 12, and the place, in one number:
    // at most 84 CALL POINTS, 7 LANDS and 8 places fit into the digits that each has.
    private int keyWithout(int song, int skipped) {
      int total = 0;
      int byCalls = 0;
      int giving = 0;
      int giving12 = 0;
      for (int land = 0; land < LANDS; land++) {
        if (land != skipped) {
          int its = phones.points[land][song];
          total += juries.points[land][song] + its;
          byCalls += its;
          giving += its > 0 ? 1 : 0;
          giving12 += its == TOP ? 1 : 0;
        }
      }
      int ahead = LANDS - stage.placeOf(song);
      return (((total * 100 + byCalls) * 10 + giving) * 10 + giving12) * 10 + ahead;
    }

    int leaderWithout(int land) {
      int leader = NONE;
      int most = 0;
      for (int song = 0; song < LANDS; song++) {
        int key = songs.isRunning(song) ? keyWithout(song, land) : 0;
        if (key > most) {
          most = key;
          leader = song;
        }
      }
      return leader;
    }

    int songAt(int rank) {
      return isWithin(rank, 0, count - 1) ? order[rank] : NONE;
    }

    int rankOf(int song) {
      for (int rank = 0; rank < count; rank++) {
        if (order[rank] == song) {
          return rank;
        }
      }
      return NONE;
    }

    int sumOfTotals() {
      int sum = 0;
      for (int song = 0; song < LANDS; song++) {
        sum += juryPoints[song] + callPoints[song];
      }
      return sum;
    }
  }

  /** What was READ in this YEAR: it stays as it was read, while the points go on changing. */
  private static final class Board {
    final Lands lands;
    final Songs songs;
    final int[][] jury = new int[LANDS][LANDS];
    final int[] calls = new int[LANDS];
    final boolean[] isRead = new boolean[LANDS];
    final boolean[] isDown = new boolean[LANDS];
    final boolean[] areCallsRead = new boolean[LANDS];
    int landsRead = 0;
    int songsRead = 0;

    Board(Lands lands, Songs songs) {
      this.lands = lands;
      this.songs = songs;
    }

    void clear() {
      for (int land = 0; land < LANDS; land++) {
        wipe(land);
        isRead[land] = false;
        isDown[land] = false;
        areCallsRead[land] = false;
      }
      landsRead = 0;
      songsRead = 0;
    }

    void wipe(int song) {
      calls[song] = 0;
      for (int land = 0; land < LANDS; land++) {
        jury[land][song] = 0;
      }
    }

    boolean canRead(int land) {
      return !isRead[land] && !isDown[land];
    }

    int readableBeside(int skipped) {
      int sum = 0;
      for (int land = 0; land < lands.count; land++) {
        sum += land != skipped && canRead(land) ? 1 : 0;
      }
      return sum;
    }

    void takeLand(int land, int[] points) {
      put(land, points);
      isRead[land] = true;
      landsRead++;
      for (int other = 0; other < LANDS; other++) {
        isDown[other] = false;
      }
    }

    // Returns by how much that differs from what stood there.
    int put(int land, int[] points) {
      int sum = 0;
      for (int song = 0; song < LANDS; song++) {
        sum += Math.abs(points[song] - jury[land][song]);
        jury[land][song] = points[song];
      }
      return sum;
    }

    void takeCalls(int song, int points) {
      calls[song] = points;
      areCallsRead[song] = true;
      songsRead++;
    }

    int juryOf(int song) {
      int sum = 0;
      for (int land = 0; land < LANDS; land++) {
        sum += jury[land][song];
      }
      return sum;
    }

    int nextSong() {
      int best = NONE;
      int least = 0;
      for (int song = 0; song < LANDS; song++) {
        if (songs.isRunning(song) && !areCallsRead[song]) {
          int points = juryOf(song);
          if (best == NONE || points <= least) {
            best = song;
            least = points;
          }
        }
      }
      return best;
    }

    int hopefuls() {
      int most = 0;
      for (int song = 0; song < LANDS; song++) {
        most = songs.isRunning(song) ? Math.max(most, juryOf(song)) : most;
      }
      int sum = 0;
      for (int song = 0; song < LANDS; song++) {
        boolean isHopeful = songs.isRunning(song) && juryOf(song) + stillToCome(song) >= most;
        sum += isHopeful ? 1 : 0;
      }
      return sum;
    }

    private int stillToCome(int song) {
      int sum = 0;
      for (int land = 0; land < lands.count; land++) {
        sum += land != song && !isRead[land] ? TOP : 0;
      }
      return sum;
    }

    int leadWith(int[] points) {
      int first = 0;
      int second = 0;
      for (int song = 0; song < LANDS; song++) {
        int has = songs.isRunning(song) ? juryOf(song) + calls[song] + points[song] : 0;
        if (has > first) {
          second = first;
          first = has;
        } else if (has > second) {
          second = has;
        }
      }
      return first - second;
    }
  }
}
