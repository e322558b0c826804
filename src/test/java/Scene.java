import java.util.ArrayList;
import java.util.List;

/**
 * A row of calls that makes a contest, told as a text: "land 0 999; enter 0 100 1 0; start". MIN and
 * MAX stand for the smallest and the greatest int.
 */
final class Scene {
  private final List<String> calls;

  private Scene(List<String> calls) {
    this.calls = calls;
  }

  static Scene of(String calls) {
    return new Scene(List.of()).then(calls);
  }

  /** This scene, and more calls behind it. */
  Scene then(String more) {
    List<String> all = new ArrayList<>(calls);
    for (String call : more.split(";")) {
      if (!call.isBlank()) {
        all.add(call.trim());
      }
    }
    return new Scene(all);
  }

  int size() {
    return calls.size();
  }

  List<String> calls() {
    return calls;
  }

  /** A new contest to which all was told. No call of a scene may be refused. */
  Songnations made() {
    Songnations x = new Songnations();
    for (String call : calls) {
      try {
        tell(x, call);
      } catch (RuntimeException e) {
        throw new AssertionError(call + " of the scene " + this, e);
      }
    }
    return x;
  }

  @Override
  public String toString() {
    return "[" + String.join("; ", calls) + "]";
  }

  static Object tell(Songnations x, String call) {
    String[] words = call.split(" +");
    int[] n = new int[5];
    for (int i = 1; i < words.length; i++) {
      n[i - 1] = number(words[i]);
    }
    switch (words[0]) {
      case "land":
        return x.land(n[0], n[1]);
      case "rules":
        return x.rules(n[0], n[1], n[2], n[3], n[4] == 1);
      case "enter":
        return x.enter(n[0], n[1], n[2], n[3]);
      case "withdraw":
        return x.withdraw(n[0]);
      case "move":
        return x.move(n[0], n[1]);
      case "start":
        return x.start();
      default:
        return vote(x, words[0], n);
    }
  }

  private static Object vote(Songnations x, String name, int[] n) {
    switch (name) {
      case "jury":
        return x.jury(n[0], n[1], n[2]);
      case "call":
        return x.call(n[0], n[1], n[2], n[3]);
      case "disqualify":
        return x.disqualify(n[0]);
      case "close":
        return x.close();
      case "fail":
        return x.fail(n[0]);
      case "read":
        return x.read(n[0]);
      case "readCalls":
        return x.readCalls();
      case "correct":
        return x.correct(n[0]);
      case "end":
        return x.end();
      case "next":
        return x.next();
      default:
        return ask(x, name, n);
    }
  }

  private static Object ask(Songnations x, String name, int[] n) {
    switch (name) {
      case "ofLand":
        return x.ofLand(n[0], n[1]);
      case "ofSong":
        return x.ofSong(n[0], n[1]);
      case "gives":
        return x.gives(n[0], n[1], n[2] == 1);
      case "at":
        return x.at(n[0]);
      case "ranked":
        return x.ranked(n[0]);
      case "many":
        return x.many(n[0]);
      case "meanTotal":
        return x.meanTotal();
      case "isOpen":
        return x.isOpen();
      case "nextRead":
        return x.nextRead();
      case "without":
        return x.without(n[0]);
      case "needCalls":
        return x.needCalls(n[0], n[1]);
      case "bestMove":
        return x.bestMove();
      case "digest":
        return x.digest();
      default:
        throw new AssertionError("no such call: " + name);
    }
  }

  private static int number(String word) {
    switch (word) {
      case "MIN":
        return Integer.MIN_VALUE;
      case "MAX":
        return Integer.MAX_VALUE;
      case "true":
        return 1;
      case "false":
        return 0;
      default:
        return Integer.parseInt(word);
    }
  }
}
