import java.util.ArrayList;
import java.util.Collections;
import java.util.HashMap;
import java.util.HashSet;
import java.util.List;
import java.util.Map;
import java.util.Set;
import java.util.TreeMap;

/**
 * A second Songnations, written sentence by sentence from the document, with the Java library and
 * with little thought of speed: nothing is kept but what was told, all else is found anew behind each
 * change. ComparedRuns holds the two side by side.
 */
final class PlainContest {
  private static final int[] WEIGHT = {12, 10, 8, 7, 6, 5, 4};

  private static final class Land {
    int pot;
    int beds;
    int money = 100;
    int won = 0;
    int hosted = 0;
  }

  private static final class Song {
    int seconds;
    int props;
    int half;
    boolean disqualified = false;
    boolean callsRead = false;
    int callsOnBoard = 0;
    final Map<Integer, Integer> juryOnBoard = new HashMap<>();

    int juryBoard() {
      int sum = 0;
      for (int points : juryOnBoard.values()) {
        sum += points;
      }
      return sum;
    }

    int board() {
      return juryBoard() + callsOnBoard;
    }
  }

  private static final class Told {
    int land;
    int caller;
    int song;
    int counting;
  }

  private final List<Land> lands = new ArrayList<>();
  private TreeMap<Integer, Song> songs = new TreeMap<>();
  private List<Integer> order = new ArrayList<>();
  private final Map<Integer, TreeMap<Integer, List<Integer>>> ballots = new HashMap<>();
  private final List<Told> calls = new ArrayList<>();
  private final Set<Integer> read = new HashSet<>();
  private final Set<Integer> failed = new HashSet<>();
  private int year = 0;
  private int phase = 0;
  private int length = 180;
  private int people = 6;
  private int limit = 10;
  private int threshold = 10;
  private boolean audit = false;
  private int host = -1;
  private int wonNow = -1;
  private int wonBefore = -1;
  private int corrected = 0;
  private final Map<String, Object> found = new HashMap<>();

  // ---- entries

  int land(int pot, int beds) {
    argument(pot >= 0 && pot <= 3 && beds >= 0 && beds <= 999);
    state(lands.size() < 8 && phase == 0);
    Land land = new Land();
    land.pot = pot;
    land.beds = beds;
    lands.add(land);
    return lands.size() - 1;
  }

  int rules(int length, int people, int limit, int threshold, boolean audit) {
    argument(length >= 60 && length <= 300 && people >= 1 && people <= 9);
    argument(limit >= 1 && limit <= 20 && threshold >= 0 && threshold <= 99);
    state(phase == 0 && songs.isEmpty());
    int before = this.length;
    this.length = length;
    this.people = people;
    this.limit = limit;
    this.threshold = threshold;
    this.audit = audit;
    return before;
  }

  int enter(int land, int seconds, int people, int props) {
    bounds(isLand(land));
    argument(seconds >= 1 && seconds <= 600 && people >= 1 && people <= 20);
    argument(props >= 0 && props <= 9);
    state(phase == 0 && !songs.containsKey(land));
    if (seconds > length) {
      return -2;
    }
    if (people > this.people) {
      return -3;
    }
    Song song = new Song();
    song.seconds = seconds;
    song.props = props;
    song.half = (7 * land + 3 * year + seconds) % 2;
    songs.put(land, song);
    lands.get(land).money -= 10;
    List<Integer> first = ofHalf(0);
    List<Integer> second = ofHalf(1);
    (song.half == 0 ? first : second).add(land);
    order = joined(first, second);
    return song.half;
  }

  int withdraw(int land) {
    bounds(isLand(land));
    state(phase == 0 && songs.containsKey(land));
    songs.remove(land);
    order.remove(Integer.valueOf(land));
    return songs.size();
  }

  int move(int land, int place) {
    bounds(isLand(land));
    argument(place >= 0 && place <= songs.size() - 1);
    state(phase <= 1 && songs.containsKey(land));
    state(songs.get(order.get(place)).half == songs.get(land).half);
    order = moved(land, place);
    return delay(order);
  }

  int start() {
    state(phase == 0 && songs.size() >= 2);
    phase = 1;
    return songs.size();
  }

  // ---- votes

  int jury(int land, int juror, int n) {
    bounds(isLand(land) && juror >= 0 && juror <= 4);
    List<List<Integer>> all = new ArrayList<>();
    writeOrders(new ArrayList<>(), candidates(land), all);
    argument(n >= 0 && n < all.size());
    state(phase == 1);
    ballotsOf(land).put(juror, all.get(n));
    return all.get(n).isEmpty() ? -1 : all.get(n).get(0);
  }

  int call(int land, int caller, int song, int many) {
    bounds(isLand(land) && songs.containsKey(song) && caller >= 0 && caller <= 9);
    argument(song != land && !songs.get(song).disqualified && many >= 1 && many <= 99);
    state(phase == 1);
    int left = limit;
    for (Told told : calls) {
      if (told.land == land && told.caller == caller) {
        left -= told.counting;
      }
    }
    Told told = new Told();
    told.land = land;
    told.caller = caller;
    told.song = song;
    told.counting = Math.min(left, many);
    calls.add(told);
    return told.counting;
  }

  int disqualify(int land) {
    bounds(isLand(land) && songs.containsKey(land));
    state(phase == 1 || phase == 2);
    state(!songs.get(land).disqualified && running().size() >= 3);
    songs.get(land).disqualified = true;
    songs.get(land).callsOnBoard = 0;
    songs.get(land).juryOnBoard.clear();
    return running().size();
  }

  int close() {
    state(phase == 1);
    phase = 2;
    return voids().size();
  }

  // ---- reading

  int fail(int land) {
    bounds(isLand(land));
    state(phase == 2 && !read.contains(land));
    Set<Integer> then = new HashSet<>(failed);
    then.add(land);
    int readable = 0;
    for (int other = 0; other < lands.size(); other++) {
      if (!read.contains(other) && !then.contains(other)) {
        readable++;
      }
    }
    state(readable > 0);
    failed.add(land);
    return readable;
  }

  int read(int land) {
    bounds(isLand(land));
    state(phase == 2 && !read.contains(land) && !failed.contains(land));
    read.add(land);
    failed.clear();
    Map<Integer, Integer> points = juryPoints(land);
    int top = -1;
    for (int song : points.keySet()) {
      songs.get(song).juryOnBoard.put(land, points.get(song));
      top = points.get(song) == 12 ? song : top;
    }
    return top;
  }

  int readCalls() {
    state(phase == 2 && read.size() == lands.size());
    state(nextSong() != -1);
    int song = nextSong();
    int points = pointsByCalls(song, -1);
    songs.get(song).callsRead = true;
    songs.get(song).callsOnBoard = points;
    return 1000 * song + points;
  }

  int correct(int land) {
    bounds(isLand(land));
    state(phase == 2 && read.contains(land));
    corrected++;
    int differences = 0;
    Map<Integer, Integer> points = juryPoints(land);
    for (int song : points.keySet()) {
      Map<Integer, Integer> board = songs.get(song).juryOnBoard;
      differences += Math.abs(points.get(song) - board.getOrDefault(land, 0));
      board.put(land, points.get(song));
    }
    return differences;
  }

  int end() {
    state(phase == 2 && read.size() == lands.size() && nextSong() == -1);
    phase = 3;
    List<Integer> ranks = ranking(-1);
    wonNow = ranks.get(0);
    lands.get(wonNow).money += 50;
    lands.get(wonNow).won++;
    for (int song : ranks) {
      if (host == -1 && lands.get(song).beds >= 40 * songs.size()) {
        host = song;
      }
    }
    if (host != -1) {
      lands.get(host).money -= 60;
      lands.get(host).hosted++;
    }
    return wonNow;
  }

  int next() {
    state(phase == 3 && year != 20);
    year++;
    phase = 0;
    wonBefore = wonNow;
    host = -1;
    songs = new TreeMap<>();
    order = new ArrayList<>();
    ballots.clear();
    calls.clear();
    read.clear();
    failed.clear();
    return year;
  }

  // ---- what is asked

  int ofLand(int land, int what) {
    bounds(isLand(land));
    argument(what >= 0 && what <= 10);
    Land its = lands.get(land);
    List<Integer> all = new ArrayList<>();
    all.add(its.pot);
    all.add(its.beds);
    all.add(its.money);
    all.add(ballotsOf(land).size());
    all.add(outlier(land));
    all.add(voids().contains(land) ? 1 : 0);
    all.add(callsInAll(land));
    all.add(blocked(land).size());
    all.add(read.contains(land) ? 1 : 0);
    all.add(its.won);
    all.add(its.hosted);
    return all.get(what);
  }

  int ofSong(int land, int what) {
    bounds(isLand(land) && songs.containsKey(land));
    argument(what >= 0 && what <= 9);
    Song its = songs.get(land);
    List<Integer> all = new ArrayList<>();
    all.add(its.seconds);
    all.add(its.props);
    all.add(its.half);
    all.add(order.indexOf(land));
    all.add(its.disqualified ? 1 : 0);
    all.add(its.disqualified ? 0 : pointsByJuries(land, -1));
    all.add(its.disqualified ? 0 : pointsByCalls(land, -1));
    all.add(its.disqualified ? 0 : pointsByJuries(land, -1) + pointsByCalls(land, -1));
    all.add(ranking(-1).indexOf(land));
    all.add(its.board());
    return all.get(what);
  }

  int gives(int land, int song, boolean isJury) {
    bounds(isLand(land) && songs.containsKey(song));
    return (isJury ? juryPoints(land) : callPoints(land)).getOrDefault(song, 0);
  }

  int at(int place) {
    bounds(place >= 0 && place < order.size());
    return order.get(place);
  }

  int ranked(int rank) {
    List<Integer> ranks = ranking(-1);
    bounds(rank >= 0 && rank < ranks.size());
    return ranks.get(rank);
  }

  int many(int what) {
    argument(what >= 0 && what <= 11);
    int callsRead = 0;
    for (Song song : songs.values()) {
      callsRead += song.callsRead ? 1 : 0;
    }
    List<Integer> all = new ArrayList<>();
    all.add(year);
    all.add(phase);
    all.add(lands.size());
    all.add(songs.size());
    all.add(songs.size() - running().size());
    all.add(delay(order));
    all.add(voids().size());
    all.add(read.size());
    all.add(callsRead);
    all.add(host);
    all.add(wonBefore);
    all.add(corrected);
    return all.get(what);
  }

  double meanTotal() {
    double sum = 0;
    for (int song : running()) {
      sum += pointsByJuries(song, -1) + pointsByCalls(song, -1);
    }
    return running().isEmpty() ? 0 : sum / running().size();
  }

  // ---- what would be

  boolean isOpen() {
    if (phase != 2 || read.size() == lands.size()) {
      return false;
    }
    int most = 0;
    for (int song : running()) {
      most = Math.max(most, songs.get(song).juryBoard());
    }
    int could = 0;
    for (int song : running()) {
      int unread = lands.size() - read.size() - (read.contains(song) ? 0 : 1);
      could += songs.get(song).juryBoard() + 12 * unread >= most ? 1 : 0;
    }
    return could > 1;
  }

  int nextRead() {
    int best = -1;
    int least = Integer.MAX_VALUE;
    for (int land = 0; land < lands.size(); land++) {
      if (phase == 2 && !read.contains(land) && !failed.contains(land)) {
        List<Integer> numbers = new ArrayList<>();
        for (int song : running()) {
          numbers.add(songs.get(song).board() + juryPoints(land).getOrDefault(song, 0));
        }
        Collections.sort(numbers, Collections.reverseOrder());
        if (numbers.get(0) - numbers.get(1) < least) {
          least = numbers.get(0) - numbers.get(1);
          best = land;
        }
      }
    }
    return best;
  }

  int without(int land) {
    bounds(isLand(land));
    return songs.isEmpty() ? -1 : ranking(land).get(0);
  }

  int needCalls(int land, int song) {
    bounds(isLand(land) && songs.containsKey(song));
    if (!candidates(land).contains(song)) {
      return -1;
    }
    for (int more = 0; ; more++) {
      int[] mine = countedFor(land, song);
      mine[0] += more;
      mine[1] += more > 0 ? 1 : 0;
      boolean first = mine[0] > 0;
      for (int other : candidates(land)) {
        int[] its = countedFor(land, other);
        boolean ahead = its[0] > mine[0] || its[0] == mine[0] && its[1] > mine[1]
            || its[0] == mine[0] && its[1] == mine[1] && other < song;
        first &= other == song || !ahead;
      }
      if (first) {
        return more;
      }
    }
  }

  int bestMove() {
    int best = -1;
    int least = delay(order);
    for (int number = 0; number < 800 && phase <= 1; number++) {
      int land = number / 100;
      int place = number % 100;
      if (songs.containsKey(land) && place < order.size()
          && songs.get(order.get(place)).half == songs.get(land).half
          && delay(moved(land, place)) < least) {
        least = delay(moved(land, place));
        best = number;
      }
    }
    return best;
  }

  long digest() {
    List<Long> numbers = new ArrayList<>();
    for (int what = 0; what <= 11; what++) {
      numbers.add((long) many(what));
    }
    for (int land = 0; land < lands.size(); land++) {
      for (int what = 0; what <= 10; what++) {
        numbers.add((long) ofLand(land, what));
      }
      numbers.add((long) without(land));
      for (int song : songs.keySet()) {
        numbers.add((long) gives(land, song, true));
        numbers.add((long) gives(land, song, false));
        numbers.add((long) needCalls(land, song));
      }
    }
    for (int song : songs.keySet()) {
      for (int what = 0; what <= 9; what++) {
        numbers.add((long) ofSong(song, what));
      }
    }
    for (int place = 0; place < order.size(); place++) {
      numbers.add((long) at(place));
    }
    for (int rank = 0; rank < running().size(); rank++) {
      numbers.add((long) ranked(rank));
    }
    numbers.add(isOpen() ? 1L : 0L);
    numbers.add((long) nextRead());
    numbers.add((long) bestMove());
    long d = 58219;
    for (long v : numbers) {
      d = d * 31 + v;
    }
    return d;
  }

  // ---- the terms

  private static void bounds(boolean isRight) {
    if (!isRight) {
      throw new IndexOutOfBoundsException();
    }
  }

  private static void argument(boolean isRight) {
    if (!isRight) {
      throw new IllegalArgumentException();
    }
  }

  // All that change something, and they alone, pass here ahead of the change.
  private void state(boolean isRight) {
    if (!isRight) {
      throw new IllegalStateException();
    }
    found.clear();
  }

  private interface Finder<T> {
    T find();
  }

  @SuppressWarnings("unchecked")
  private <T> T once(String what, Finder<T> finder) {
    if (!found.containsKey(what)) {
      found.put(what, finder.find());
    }
    return (T) found.get(what);
  }

  private boolean isLand(int land) {
    return land >= 0 && land < lands.size();
  }

  private List<Integer> ofHalf(int half) {
    List<Integer> row = new ArrayList<>();
    for (int song : order) {
      if (songs.get(song).half == half) {
        row.add(song);
      }
    }
    return row;
  }

  private static List<Integer> joined(List<Integer> first, List<Integer> second) {
    List<Integer> row = new ArrayList<>(first);
    row.addAll(second);
    return row;
  }

  private List<Integer> moved(int land, int place) {
    List<Integer> row = new ArrayList<>(order);
    row.remove(Integer.valueOf(land));
    row.add(place, land);
    return row;
  }

  private int delay(List<Integer> row) {
    int sum = 0;
    for (int i = 0; i + 1 < row.size(); i++) {
      int both = songs.get(row.get(i)).props + songs.get(row.get(i + 1)).props;
      sum += both > 6 ? both - 6 : 0;
    }
    return sum;
  }

  private List<Integer> running() {
    List<Integer> row = new ArrayList<>();
    for (int song : songs.keySet()) {
      if (!songs.get(song).disqualified) {
        row.add(song);
      }
    }
    return row;
  }

  private List<Integer> candidates(int land) {
    List<Integer> row = running();
    row.remove(Integer.valueOf(land));
    return row;
  }

  private static void writeOrders(
      List<Integer> begun, List<Integer> left, List<List<Integer>> all) {
    if (left.isEmpty()) {
      all.add(begun);
    }
    for (int song : left) {
      List<Integer> longer = new ArrayList<>(begun);
      longer.add(song);
      List<Integer> fewer = new ArrayList<>(left);
      fewer.remove(Integer.valueOf(song));
      writeOrders(longer, fewer, all);
    }
  }

  private TreeMap<Integer, List<Integer>> ballotsOf(int land) {
    return ballots.computeIfAbsent(land, its -> new TreeMap<>());
  }

  /** The ballots of a land as they are now, by jurors. */
  private TreeMap<Integer, List<Integer>> ballotsNow(int land) {
    TreeMap<Integer, List<Integer>> now = new TreeMap<>();
    for (int juror : ballotsOf(land).keySet()) {
      List<Integer> ballot = new ArrayList<>(ballotsOf(land).get(juror));
      ballot.retainAll(candidates(land));
      now.put(juror, ballot);
    }
    return now;
  }

  private TreeMap<Integer, List<Integer>> countingBallots(int land) {
    return once("countingBallots" + land, () -> findCountingBallots(land));
  }

  private TreeMap<Integer, List<Integer>> findCountingBallots(int land) {
    TreeMap<Integer, List<Integer>> now = ballotsNow(land);
    now.remove(outlier(land));
    return now;
  }

  private Map<Integer, Integer> sumsOf(int land, Map<Integer, List<Integer>> its) {
    Map<Integer, Integer> sums = new HashMap<>();
    for (int song : candidates(land)) {
      int sum = 0;
      for (List<Integer> ballot : its.values()) {
        sum += WEIGHT[ballot.indexOf(song)];
      }
      sums.put(song, sum);
    }
    return sums;
  }

  private List<Integer> orderBy(int land, Map<Integer, Integer> sums) {
    List<Integer> row = candidates(land);
    row.sort((a, b) -> sums.get(a).equals(sums.get(b)) ? a - b : sums.get(b) - sums.get(a));
    return row;
  }

  private int outlier(int land) {
    return once("outlier" + land, () -> findOutlier(land));
  }

  private int findOutlier(int land) {
    TreeMap<Integer, List<Integer>> all = ballotsNow(land);
    List<Integer> byAll = orderBy(land, sumsOf(land, all));
    int juror = -1;
    int greatest = -1;
    for (int its : all.keySet()) {
      int distance = 0;
      for (int song : candidates(land)) {
        distance += Math.abs(all.get(its).indexOf(song) - byAll.indexOf(song));
      }
      if (distance > greatest) {
        greatest = distance;
        juror = its;
      }
    }
    return all.size() >= 3 && greatest > candidates(land).size() * 3 / 2.0 ? juror : -1;
  }

  private boolean hasFewBallots(int land) {
    return ballotsOf(land).size() < 2;
  }

  private boolean praises(int land, int song) {
    return once("praises" + land + "," + song, () -> findPraises(land, song));
  }

  private boolean findPraises(int land, int song) {
    TreeMap<Integer, List<Integer>> its = countingBallots(land);
    if (hasFewBallots(land) || orderBy(land, sumsOf(land, its)).indexOf(song) != 0) {
      return false;
    }
    int praising = 0;
    for (List<Integer> ballot : its.values()) {
      praising += ballot.get(0) == song ? 1 : 0;
    }
    return praising >= 3;
  }

  private Set<Integer> voids() {
    return once("voids", () -> findVoids());
  }

  private Set<Integer> findVoids() {
    Set<Integer> all = new HashSet<>();
    for (int a = 0; a < lands.size(); a++) {
      if (hasFewBallots(a)) {
        all.add(a);
      }
      for (int b = 0; b < lands.size(); b++) {
        if (audit && a != b && praises(a, b) && praises(b, a)) {
          all.add(a);
          all.add(b);
        }
      }
    }
    return all;
  }

  private Map<Integer, Integer> juryPoints(int land) {
    return once("juryPoints" + land, () -> findJuryPoints(land));
  }

  private Map<Integer, Integer> findJuryPoints(int land) {
    Set<Integer> voids = voids();
    Map<Integer, Integer> sums = sumsOf(land, countingBallots(land));
    if (voids.contains(land)) {
      for (int song : candidates(land)) {
        int sum = 0;
        for (int other = 0; other < lands.size(); other++) {
          if (lands.get(other).pot == lands.get(land).pot && !voids.contains(other)) {
            sum += sumsOf(other, countingBallots(other)).getOrDefault(song, 0);
          }
        }
        sums.put(song, sum);
      }
    }
    Map<Integer, Integer> points = new HashMap<>();
    List<Integer> row = orderBy(land, sums);
    for (int song : row) {
      points.put(song, sums.get(song) == 0 ? 0 : WEIGHT[row.indexOf(song)]);
    }
    return points;
  }

  /** How many calls that count by the limit a caller has for a song. */
  private int counting(int land, int caller, int song) {
    int sum = 0;
    for (Told told : calls) {
      if (told.land == land && told.caller == caller && told.song == song) {
        sum += told.counting;
      }
    }
    return sum;
  }

  private Set<Integer> blocked(int land) {
    return once("blocked" + land, () -> findBlocked(land));
  }

  private Set<Integer> findBlocked(int land) {
    Set<Integer> all = new HashSet<>();
    for (int song : songs.keySet()) {
      Set<Integer> full = new HashSet<>();
      for (int caller = 0; caller <= 9; caller++) {
        if (counting(land, caller, song) == limit) {
          full.add(caller);
        }
      }
      if (full.size() >= 3) {
        all.addAll(full);
      }
    }
    return all;
  }

  /** The calls that count for a song, and how many callers they are of. */
  private int[] countedFor(int land, int song) {
    int[] sum = new int[2];
    for (int caller = 0; caller <= 9; caller++) {
      int many = counting(land, caller, song);
      if (many > 0 && !blocked(land).contains(caller)) {
        sum[0] += many;
        sum[1]++;
      }
    }
    return sum;
  }

  private int callsInAll(int land) {
    return once("callsInAll" + land, () -> findCallsInAll(land));
  }

  private int findCallsInAll(int land) {
    int sum = 0;
    for (int song : candidates(land)) {
      sum += countedFor(land, song)[0];
    }
    return sum;
  }

  private Map<Integer, Integer> callPoints(int land) {
    return once("callPoints" + land, () -> findCallPoints(land));
  }

  private Map<Integer, Integer> findCallPoints(int land) {
    if (callsInAll(land) < threshold) {
      return juryPoints(land);
    }
    Map<Integer, int[]> counted = new HashMap<>();
    for (int song : candidates(land)) {
      counted.put(song, countedFor(land, song));
    }
    List<Integer> row = candidates(land);
    row.sort((a, b) -> {
      int[] one = counted.get(a);
      int[] two = counted.get(b);
      return one[0] != two[0] ? two[0] - one[0] : one[1] != two[1] ? two[1] - one[1] : a - b;
    });
    Map<Integer, Integer> points = new HashMap<>();
    for (int song : row) {
      points.put(song, counted.get(song)[0] == 0 ? 0 : WEIGHT[row.indexOf(song)]);
    }
    return points;
  }

  private int pointsByJuries(int song, int silent) {
    int sum = 0;
    for (int land = 0; land < lands.size(); land++) {
      sum += land == silent ? 0 : juryPoints(land).getOrDefault(song, 0);
    }
    return sum;
  }

  private int pointsByCalls(int song, int silent) {
    int sum = 0;
    for (int land = 0; land < lands.size(); land++) {
      sum += land == silent ? 0 : callPoints(land).getOrDefault(song, 0);
    }
    return sum;
  }

  /** The songs by rank, if that land gave nothing (-1: if all give what they give). */
  private List<Integer> ranking(int silent) {
    return once("ranking" + silent, () -> findRanking(silent));
  }

  private List<Integer> findRanking(int silent) {
    Map<Integer, int[]> keys = new HashMap<>();
    for (int song : running()) {
      int byCalls = pointsByCalls(song, silent);
      int some = 0;
      int twelves = 0;
      for (int land = 0; land < lands.size(); land++) {
        int points = land == silent ? 0 : callPoints(land).getOrDefault(song, 0);
        some += points > 0 ? 1 : 0;
        twelves += points == 12 ? 1 : 0;
      }
      int total = byCalls + pointsByJuries(song, silent);
      keys.put(song, new int[] {total, byCalls, some, twelves, -order.indexOf(song)});
    }
    List<Integer> row = running();
    row.sort((a, b) -> {
      for (int i = 0; i < 5; i++) {
        if (keys.get(a)[i] != keys.get(b)[i]) {
          return keys.get(b)[i] - keys.get(a)[i];
        }
      }
      return 0;
    });
    return row;
  }

  private int nextSong() {
    int best = -1;
    for (int song : running()) {
      if (!songs.get(song).callsRead
          && (best == -1 || songs.get(song).juryBoard() <= songs.get(best).juryBoard())) {
        best = song;
      }
    }
    return best;
  }
}
