import java.util.ArrayList;
import java.util.Arrays;
import java.util.LinkedHashMap;
import java.util.List;
import java.util.Map;

/**
 * What each call changes, and that it changes nothing else: of all that can be asked, the lines that
 * answer otherwise behind the call than ahead of it. And what can not be asked: the RULES and what is
 * left of the LIMIT stay, whatever comes.
 */
public final class ChangesTest {
  private static final Bounds BOUNDS = new Bounds("ChangesTest");

  /**
   * The YEAR 1 of five lands. Song 1 won the YEAR 0 by the jury of land 4, and land 0 was the HOST, as
   * land 1 has 70 beds; land 1 was CORRECTED.
   */
  private static final Scene YEAR = Scene.of("land 1 200; land 2 70; land 1 90; land 2 0; land 3 999;"
      + "rules 200 7 3 2 true; enter 0 100 1 0; enter 1 101 1 0; start; jury 4 0 1; jury 4 1 1; close;"
      + Scenes.reads(5) + "correct 1; readCalls; readCalls; end; next");

  /** 1 and 0 of the half 0, 3 and 2 of the half 1, with the props 5 4 | 9 2: a delay of 3, 7 and 5. */
  private static final Scene ENTRIES =
      YEAR.then("enter 3 181 3 9; enter 1 180 7 5; enter 0 151 2 4; enter 2 200 1 2");

  /**
   * JURIES: land 0 (2 1 3), land 1 (3 0 2), land 4 (0 1 2 3); by them land 2 has (1 3), land 3 (0 2).
   * Calls: land 4 has (1 2), land 2 has (3); the others are below the THRESHOLD. So the songs 0 to 3
   * have 34 32 38 37 JURY POINTS and 22 22 40 32 CALL POINTS: 56 54 78 69.
   */
  private static final String BALLOTS_AND_CALLS = "start; " + Scenes.jurors(4, 2, 0)
      + Scenes.jurors(0, 2, 2) + Scenes.jurors(1, 2, 4) + "call 4 0 1 2; call 4 1 2 1; call 2 0 3 3; ";

  private static final Scene VOTES = ENTRIES.then(BALLOTS_AND_CALLS);

  /** 22 10 16 19 on the BOARD. */
  private static final Scene READING = VOTES.then("close; read 4; read 1");

  /** 34 32 38 37. */
  private static final Scene LANDS_READ = READING.then("read 0; read 2; read 3");

  private static final Scene ALL_READ = LANDS_READ.then("readCalls; readCalls; readCalls; readCalls");

  /** Each call that changes something, behind rules(). */
  private static final Scene ALL_CALLS = ENTRIES.then("land 0 0; withdraw 0; enter 0 151 2 4; move 3 3;"
      + "move 3 2; " + BALLOTS_AND_CALLS + "move 3 3; disqualify 1; close; fail 0; read 4; correct 4;"
      + "read 0; read 1; read 2; read 3; read 5; readCalls; readCalls; readCalls; end; next");

  private ChangesTest() {}

  public static void main(String[] args) {
    lands();
    entering();
    withdrawing();
    moving();
    ballots();
    calls();
    disqualifying();
    lines();
    reading();
    correcting();
    years();
    everStays();
    rulesStay();
    limitStays();
    BOUNDS.finish();
  }

  // ---- entries

  private static void lands() {
    changes(YEAR, "land 2 5 = 5", "many 2 = 6; many 6 = 6; ofLand 5 0 = 2; ofLand 5 1 = 5;"
        + "ofLand 5 2 = 100; ofLand 5 3 = 0; ofLand 5 4 = -1; ofLand 5 5 = 1; ofLand 5 6 = 0;"
        + "ofLand 5 7 = 0; ofLand 5 8 = 0; ofLand 5 9 = 0; ofLand 5 10 = 0; without 5 = -1");
    changes(ENTRIES, "land 0 0 = 5", "many 2 = 6; many 6 = 6; ofLand 5 0 = 0; ofLand 5 1 = 0;"
        + "ofLand 5 2 = 100; ofLand 5 3 = 0; ofLand 5 4 = -1; ofLand 5 5 = 1; ofLand 5 6 = 0;"
        + "ofLand 5 7 = 0; ofLand 5 8 = 0; ofLand 5 9 = 0; ofLand 5 10 = 0; without 5 = 1;"
        + "gives 5 1 true = 0; gives 5 1 false = 0; needCalls 5 1 = 1;"
        + "gives 5 0 true = 0; gives 5 0 false = 0; needCalls 5 0 = 1;"
        + "gives 5 3 true = 0; gives 5 3 false = 0; needCalls 5 3 = 1;"
        + "gives 5 2 true = 0; gives 5 2 false = 0; needCalls 5 2 = 1");
    changes(YEAR, "rules 300 9 20 99 false = 200", "");
  }

  private static void entering() {
    changes(ENTRIES, "enter 4 200 7 9 = 1", "many 3 = 5; many 5 = 20; order = [1, 0, 3, 2, 4];"
        + "ranked 4 = 4; gives 0 4 true = 0; gives 0 4 false = 0; needCalls 0 4 = 1;"
        + "gives 1 4 true = 0; gives 1 4 false = 0; needCalls 1 4 = 1;"
        + "gives 2 4 true = 0; gives 2 4 false = 0; needCalls 2 4 = 1;"
        + "gives 3 4 true = 0; gives 3 4 false = 0; needCalls 3 4 = 1;"
        + "ofLand 4 2 = 90; gives 4 4 true = 0; gives 4 4 false = 0; needCalls 4 4 = -1;"
        + "ofSong 4 0 = 200; ofSong 4 1 = 9; ofSong 4 2 = 1; ofSong 4 3 = 4; ofSong 4 4 = 0;"
        + "ofSong 4 5 = 0; ofSong 4 6 = 0; ofSong 4 7 = 0; ofSong 4 8 = 4; ofSong 4 9 = 0;"
        + "bestMove = -1");
    changes(ENTRIES, "enter 4 201 7 9 = -2", "");
    changes(ENTRIES, "enter 4 200 8 9 = -3", "");
  }

  private static void withdrawing() {
    // Behind it 1 | 3 2 has 8 and 5, and 2 at the place 1 makes 1 and 5.
    changes(ENTRIES, "withdraw 0 = 3", "many 3 = 3; many 5 = 13; order = [1, 3, 2]; ranked 1 = 3;"
        + "ranked 2 = 2; ofSong 3 3 = 1; ofSong 3 8 = 1; ofSong 2 3 = 2; ofSong 2 8 = 2;"
        + "bestMove = 201; 26 are gone");
    changes(ENTRIES, "withdraw 3 = 3", "many 3 = 3; many 5 = 3; order = [1, 0, 2]; ranked 2 = 2;"
        + "ofSong 2 3 = 2; ofSong 2 8 = 2; bestMove = -1; 26 are gone");
  }

  private static void moving() {
    changes(ENTRIES, "move 1 1 = 16", "many 5 = 16; order = [0, 1, 3, 2]; ranked 0 = 0; ranked 1 = 1;"
        + "without 0 = 0; without 1 = 0; without 2 = 0; without 3 = 0; without 4 = 0;"
        + "ofSong 0 3 = 0; ofSong 0 8 = 0; ofSong 1 3 = 1; ofSong 1 8 = 1");
    changes(ENTRIES, "move 3 3 = 8", "many 5 = 8; order = [1, 0, 2, 3]; ranked 2 = 2; ranked 3 = 3;"
        + "ofSong 2 3 = 2; ofSong 2 8 = 2; ofSong 3 3 = 3; ofSong 3 8 = 3; bestMove = -1");
    changes(VOTES, "move 3 3 = 8", "many 5 = 8; order = [1, 0, 2, 3]; ofSong 2 3 = 2; ofSong 3 3 = 3;"
        + "bestMove = -1");
    changes(VOTES, "move 0 1 = 15", "");
    changes(ENTRIES, "start = 4", "many 1 = 1");
  }

  // ---- votes

  private static void ballots() {
    changes(VOTES, "jury 2 0 0 = 0", "ofLand 2 3 = 1");
    // Two ballots (0 1 3): land 2 takes no sums of land 0 any more.
    changes(VOTES.then("jury 2 0 0"), "jury 2 1 0 = 0", "many 6 = 1; ranked 1 = 0; ranked 2 = 3;"
        + "ofLand 2 3 = 2; ofLand 2 5 = 0; gives 2 1 true = 10; gives 2 0 true = 12;"
        + "gives 2 3 true = 8; ofSong 1 5 = 30; ofSong 1 7 = 52; ofSong 0 5 = 46; ofSong 0 7 = 68;"
        + "ofSong 0 8 = 1; ofSong 3 5 = 35; ofSong 3 7 = 67; ofSong 3 8 = 2; meanTotal = 66.25");
    // (1 2 3) in place of the second (2 1 3): 22 22 16.
    changes(VOTES, "jury 0 1 0 = 1", "ranked 2 = 1; ranked 3 = 0; gives 0 1 true = 12;"
        + "gives 0 1 false = 12; gives 0 2 true = 10; gives 0 2 false = 10; ofSong 1 5 = 34;"
        + "ofSong 1 6 = 24; ofSong 1 7 = 58; ofSong 1 8 = 2; ofSong 0 8 = 3; ofSong 2 5 = 36;"
        + "ofSong 2 6 = 38; ofSong 2 7 = 74");
    changes(VOTES, "jury 0 1 2 = 2", "");
  }

  private static void calls() {
    // Two calls of one caller for 1, and for 2, too: 1 has the smaller number.
    changes(VOTES, "call 4 1 2 1 = 1", "ofLand 4 6 = 4");
    changes(VOTES, "call 2 0 1 1 = 0", "");
    changes(VOTES, "call 3 9 2 1 = 1", "ofLand 3 6 = 1; needCalls 3 2 = 0");
    changes(VOTES, "close = 2", "many 1 = 2; isOpen = true; nextRead = 0; bestMove = -1");
  }

  private static void disqualifying() {
    // (2 3) by land 0, (3) by land 2, (0 2 3) by land 4, whose single call is below the THRESHOLD.
    changes(VOTES, "disqualify 1 = 3", "many 4 = 1; ranked 0 = 3; ranked 1 = 2; gives 0 1 true = 0;"
        + "gives 0 1 false = 0; needCalls 0 1 = -1; gives 0 3 true = 10; gives 0 3 false = 10;"
        + "gives 2 1 true = 0; needCalls 2 1 = -1; gives 2 3 true = 12; needCalls 3 1 = -1;"
        + "ofLand 4 6 = 1; gives 4 1 true = 0; gives 4 1 false = 0; needCalls 4 1 = -1;"
        + "gives 4 0 false = 12; needCalls 4 0 = 1; gives 4 3 true = 8; gives 4 3 false = 8;"
        + "needCalls 4 3 = 2; gives 4 2 true = 10; needCalls 4 2 = 0; ofSong 1 4 = 1; ofSong 1 5 = 0;"
        + "ofSong 1 6 = 0; ofSong 1 7 = 0; ofSong 1 8 = -1; ofSong 0 6 = 34; ofSong 0 7 = 68;"
        + "ofSong 3 5 = 42; ofSong 3 6 = 42; ofSong 3 7 = 84; ofSong 3 8 = 0; ofSong 2 5 = 40;"
        + "ofSong 2 7 = 80; ofSong 2 8 = 1; meanTotal = " + 232.0 / 3 + "; 1 are gone");
    String without2 = "many 4 = 1; ranked 0 = 3; ranked 1 = 1; gives 0 1 true = 12;"
        + "gives 0 1 false = 12; gives 0 3 true = 10; gives 0 3 false = 10; gives 0 2 true = 0;"
        + "gives 0 2 false = 0; needCalls 0 2 = -1; without 1 = 1; gives 1 2 true = 0;"
        + "gives 1 2 false = 0; needCalls 1 2 = -1; without 2 = 0; gives 3 2 true = 0;"
        + "gives 3 2 false = 0; needCalls 3 2 = -1; ofLand 4 6 = 2; gives 4 3 true = 8;"
        + "gives 4 2 true = 0; gives 4 2 false = 0; needCalls 4 2 = -1; ofSong 1 5 = 34;"
        + "ofSong 1 6 = 24; ofSong 1 7 = 58; ofSong 1 8 = 1; ofSong 3 5 = 40; ofSong 3 6 = 34;"
        + "ofSong 3 7 = 74; ofSong 3 8 = 0; ofSong 2 4 = 1; ofSong 2 5 = 0; ofSong 2 6 = 0;"
        + "ofSong 2 7 = 0; ofSong 2 8 = -1; ";
    String mean = "meanTotal = " + 188.0 / 3 + "; 1 are gone";
    changes(VOTES, "disqualify 2 = 3", without2 + mean);
    changes(READING, "disqualify 2 = 3", without2 + "ofSong 2 9 = 0; " + mean);
    // Land 3 has (2) by land 1, now (3 2); the BOARD of the others stays: 20 28 27 of 1, 2, 3.
    changes(READING.then("read 0"), "disqualify 0 = 3", "many 4 = 1; ranked 2 = 1; without 0 = 2;"
        + "gives 1 0 true = 0; gives 1 0 false = 0; needCalls 1 0 = -1; gives 1 2 true = 10;"
        + "gives 1 2 false = 10; needCalls 2 0 = -1; gives 3 0 true = 0; gives 3 0 false = 0;"
        + "needCalls 3 0 = -1; gives 3 2 true = 12; gives 3 2 false = 12; without 4 = 2;"
        + "gives 4 1 true = 12; gives 4 0 true = 0; needCalls 4 0 = -1; gives 4 3 true = 8;"
        + "gives 4 2 true = 10; ofSong 1 5 = 34; ofSong 1 7 = 56; ofSong 1 8 = 2; ofSong 0 4 = 1;"
        + "ofSong 0 5 = 0; ofSong 0 6 = 0; ofSong 0 7 = 0; ofSong 0 8 = -1; ofSong 0 9 = 0;"
        + "ofSong 3 5 = 38; ofSong 3 7 = 70; ofSong 2 5 = 44; ofSong 2 6 = 44; ofSong 2 7 = 88;"
        + "meanTotal = " + 214.0 / 3 + "; nextRead = 2; 1 are gone");
  }

  // ---- reading

  private static void lines() {
    changes(READING, "fail 0 = 2", "nextRead = 2");
    changes(READING.then("fail 0"), "fail 0 = 2", "");
    changes(READING.then("fail 0"), "fail 2 = 1", "nextRead = 3");
    changes(READING.then("fail 0; fail 2"), "read 3 = 0", "many 7 = 3; ofLand 3 8 = 1; ofSong 0 9 = 34;"
        + "ofSong 2 9 = 26; nextRead = 0");
  }

  private static void reading() {
    // 22 20 28 27 then; land 2 makes it 37 to 32, land 3 makes it 38 to 34.
    changes(READING, "read 0 = 2", "many 7 = 3; ofLand 0 8 = 1; ofSong 1 9 = 20; ofSong 3 9 = 27;"
        + "ofSong 2 9 = 28; nextRead = 3");
    changes(READING.then("read 3; read 0"), "read 2 = 1", "many 7 = 5; ofLand 2 8 = 1; ofSong 1 9 = 32;"
        + "ofSong 3 9 = 37; isOpen = false; nextRead = -1");
    changes(LANDS_READ, "readCalls = 1022", "many 8 = 1; ofSong 1 9 = 54");
    changes(LANDS_READ.then("readCalls"), "readCalls = 22", "many 8 = 2; ofSong 0 9 = 56");
    changes(LANDS_READ.then("readCalls; readCalls; readCalls"), "readCalls = 2040",
        "many 8 = 4; ofSong 2 9 = 78");
  }

  private static void correcting() {
    changes(READING, "correct 4 = 0", "many 11 = 2");
    changes(READING.then("fail 0"), "correct 1 = 0", "many 11 = 2");
    changes(LANDS_READ.then("readCalls"), "correct 2 = 0", "many 11 = 2");
    // (0 1 3) by land 4 now: 3 has 8 in place of 7.
    changes(READING.then("disqualify 2"), "correct 4 = 1", "many 11 = 2; ofSong 3 9 = 20");
  }

  private static void years() {
    // Beds for 160: land 0 is the first one by RANK (2 3 0 1).
    changes(ALL_READ, "end = 2", "many 1 = 3; many 9 = 0; ofLand 0 2 = -40; ofLand 0 10 = 2;"
        + "ofLand 2 2 = 140; ofLand 2 9 = 1");
    changes(ALL_READ.then("end"), "next = 2", "many 0 = 2; many 1 = 0; many 3 = 0; many 5 = 0;"
        + "many 6 = 5; many 7 = 0; many 8 = 0; many 9 = -1; many 10 = 2; order = [];"
        + "ofLand 0 3 = 0; ofLand 0 5 = 1; ofLand 0 8 = 0; without 0 = -1;"
        + "ofLand 1 3 = 0; ofLand 1 5 = 1; ofLand 1 8 = 0; without 1 = -1;"
        + "ofLand 2 6 = 0; ofLand 2 8 = 0; without 2 = -1; ofLand 3 8 = 0; without 3 = -1;"
        + "ofLand 4 3 = 0; ofLand 4 5 = 1; ofLand 4 6 = 0; ofLand 4 8 = 0; without 4 = -1;"
        + "meanTotal = 0.0; 104 are gone");
  }

  /** What LANDS and the contest have ever stays through all calls of a YEAR. */
  private static void everStays() {
    for (Scene scene : new Scene[] {YEAR, ENTRIES, VOTES, READING, LANDS_READ, ALL_READ}) {
      BOUNDS.row(scene, "many 9 = -1", "many 10 = 1", "many 11 = 1", "ofLand 0 0 = 1", "ofLand 0 1 = 200",
          "ofLand 0 9 = 0", "ofLand 0 10 = 1", "ofLand 1 9 = 1", "ofLand 1 10 = 0", "ofLand 4 2 = 100",
          "ofLand 4 0 = 3", "ofLand 4 1 = 999");
    }
    // There land 0 won the YEAR 0, and was the HOST.
    Scene entries = Scenes.SECOND_YEAR.then("land 1 1; rules 200 7 3 2 true; enter 0 100 1 0;"
        + "enter 1 100 1 0; enter 2 100 1 0; withdraw 1; enter 1 100 1 0; move 1 0");
    Scene votes = entries.then("start; jury 4 0 0; call 4 0 1 1; move 1 0; disqualify 2");
    Scene reading = votes.then("close; fail 4; read 0; correct 0; read 1; read 2; read 3; read 4");
    for (Scene scene : new Scene[] {entries, votes, reading, reading.then("readCalls; readCalls")}) {
      BOUNDS.row(scene, "many 10 = 0", "ofLand 0 9 = 1", "ofLand 0 10 = 1", "ofLand 0 2 = 70");
    }
  }

  // ---- what can not be asked

  /** LENGTH, PEOPLE, LIMIT, THRESHOLD and AUDIT, in the YEAR 2. */
  private static void rulesStay() {
    BOUNDS.row(ALL_CALLS, "enter 0 201 1 0 = -2", "enter 0 200 8 0 = -3", "enter 0 200 7 0 = 0",
        "enter 1 200 7 0 = 1", "start = 2", "call 2 0 0 99 = 3", "call 3 0 0 1 = 1",
        "gives 3 0 false = 0", "call 3 1 0 1 = 1", "gives 3 0 false = 12", "jury 0 0 0 = 1",
        "jury 0 1 0 = 1", "jury 0 2 0 = 1", "jury 1 0 0 = 0", "jury 1 1 0 = 0", "many 6 = 4",
        "jury 1 2 0 = 0", "many 6 = 6");
    BOUNDS.row(ALL_CALLS, "rules 100 1 1 0 false = 200");
  }

  /** What a CALLER has left stays, whatever else comes in this YEAR. */
  private static void limitStays() {
    BOUNDS.row(VOTES, "move 3 3 = 8", "jury 2 0 0 = 0", "call 3 9 2 1 = 1", "disqualify 1 = 3",
        "call 2 0 0 1 = 0", "call 4 0 0 9 = 1", "call 4 1 0 9 = 2", "call 4 0 2 1 = 0",
        "call 3 9 0 9 = 2");
  }

  /** The call, its answer, and all that is answered otherwise behind it. */
  private static void changes(Scene scene, String line, String changed) {
    int sign = line.lastIndexOf(" = ");
    String call = line.substring(0, sign);
    Songnations x = scene.made();
    BOUNDS.due(call + " behind " + scene, line.substring(sign + 3), () -> Scene.tell(x, call));
    Map<String, String> before = answers(scene.made());
    Map<String, String> behind = answers(x);
    Bounds.checkLength(scene, 1 + behind.size());
    List<String> got = new ArrayList<>();
    for (String question : behind.keySet()) {
      if (!behind.get(question).equals(before.get(question))) {
        got.add(question + " = " + behind.get(question));
      }
    }
    before.keySet().removeAll(behind.keySet());
    if (!before.isEmpty()) {
      got.add(before.size() + " are gone");
    }
    List<String> want = changed.isEmpty() ? List.of() : Arrays.asList(changed.split("; ?"));
    BOUNDS.due("changed by " + call + " behind " + scene, want, () -> got);
  }

  private static Map<String, String> answers(Songnations x) {
    Map<String, String> answers = new LinkedHashMap<>();
    for (String line : Bounds.picture(x)) {
      int sign = line.lastIndexOf(" = ");
      boolean isOrder = sign < 0;
      answers.put(isOrder ? "order" : line.substring(0, sign), line.substring(isOrder ? 6 : sign + 3));
    }
    answers.remove("digest");
    return answers;
  }
}
