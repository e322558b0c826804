import java.lang.reflect.Method;
import java.lang.reflect.Modifier;
import java.nio.file.Files;
import java.nio.file.Path;
import java.util.regex.Matcher;
import java.util.regex.Pattern;

/** The year that README.md tells: each call with the answer behind it. And each call is named there. */
public final class ReadmeTest {
  private static final Check CHECK = new Check("ReadmeTest");
  private static final Pattern CALL =
      Pattern.compile("^contest\\.(\\w+)\\(([^)]*)\\); +// ([-\\w.]+)(: .*)?$");

  private ReadmeTest() {}

  public static void main(String[] args) throws Exception {
    String text = Files.readString(Path.of("README.md"));
    int from = text.indexOf("```java\n");
    int to = text.indexOf("```\n", from + 8);
    CHECK.due("README.md tells a year in Java", true, () -> from >= 0 && to > from);
    if (from >= 0 && to > from) {
      year(text.substring(from + 8, to));
    }
    for (Method method : Songnations.class.getDeclaredMethods()) {
      if (Modifier.isPublic(method.getModifiers())) {
        CHECK.due("README.md names " + method.getName(), true,
            () -> text.contains("`" + method.getName() + "("));
      }
    }
    CHECK.finish();
  }

  private static void year(String code) {
    Songnations contest = new Songnations();
    for (String line : code.split("\n")) {
      if (line.isBlank() || line.startsWith("//") || line.startsWith("Songnations contest = ")) {
        continue;
      }
      Matcher matcher = CALL.matcher(line);
      boolean isCall = matcher.matches();
      CHECK.due("a call with its answer: " + line, true, () -> isCall);
      if (isCall) {
        String call = matcher.group(1) + " " + matcher.group(2).replace(",", "");
        CHECK.due(line, matcher.group(3), () -> Scene.tell(contest, call));
      }
    }
    CHECK.due("the next year", 1, () -> contest.many(0));
  }
}
