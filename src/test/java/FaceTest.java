import java.lang.reflect.Constructor;
import java.lang.reflect.Field;
import java.lang.reflect.Method;
import java.lang.reflect.Modifier;
import java.nio.file.Files;
import java.nio.file.Path;
import java.util.ArrayList;
import java.util.Arrays;
import java.util.Collections;
import java.util.HashSet;
import java.util.List;
import java.util.Set;
import java.util.regex.Matcher;
import java.util.regex.Pattern;

/** The public face of the document, and what of LANGUAGE.md can be seen without running. */
public final class FaceTest {
  private static final Check CHECK = new Check("FaceTest");

  private static final String[] FACE = {
    "int land(int, int) throws IllegalArgumentException, IllegalStateException",
    "int rules(int, int, int, int, boolean) throws IllegalArgumentException, IllegalStateException",
    "int enter(int, int, int, int) throws IndexOutOfBoundsException, IllegalArgumentException,"
        + " IllegalStateException",
    "int withdraw(int) throws IndexOutOfBoundsException, IllegalStateException",
    "int move(int, int) throws IndexOutOfBoundsException, IllegalArgumentException,"
        + " IllegalStateException",
    "int start() throws IllegalStateException",
    "int jury(int, int, int) throws IndexOutOfBoundsException, IllegalArgumentException,"
        + " IllegalStateException",
    "int call(int, int, int, int) throws IndexOutOfBoundsException, IllegalArgumentException,"
        + " IllegalStateException",
    "int disqualify(int) throws IndexOutOfBoundsException, IllegalStateException",
    "int close() throws IllegalStateException",
    "int fail(int) throws IndexOutOfBoundsException, IllegalStateException",
    "int read(int) throws IndexOutOfBoundsException, IllegalStateException",
    "int readCalls() throws IllegalStateException",
    "int correct(int) throws IndexOutOfBoundsException, IllegalStateException",
    "int end() throws IllegalStateException",
    "int next() throws IllegalStateException",
    "int ofLand(int, int) throws IndexOutOfBoundsException, IllegalArgumentException",
    "int ofSong(int, int) throws IndexOutOfBoundsException, IllegalArgumentException",
    "int gives(int, int, boolean) throws IndexOutOfBoundsException",
    "int at(int) throws IndexOutOfBoundsException",
    "int ranked(int) throws IndexOutOfBoundsException",
    "int many(int) throws IllegalArgumentException",
    "double meanTotal()",
    "boolean isOpen()",
    "int nextRead()",
    "int without(int) throws IndexOutOfBoundsException",
    "int needCalls(int, int) throws IndexOutOfBoundsException",
    "int bestMove()",
    "long digest()",
  };

  /** Words that LANGUAGE.md leaves out of the source. */
  private static final String[] LEFT_OUT = {
    "^package ", "::", "\\bfinally\\b", "\\bassert\\b", "\\bsynchronized\\b", "\\bprotected\\b",
    "\\bnative\\b", "\\bvolatile\\b", "\\btransient\\b", "\\bstatic \\{", "\\w+Exact\\b",
    "\\bgetMessage\\b", "\\bnanoTime\\b", "\\bcurrentTimeMillis\\b", "\\bThread\\b", "\\bRandom\\b",
    "\\brandom\\b", "\\bNaN\\b", "catch \\((ArrayIndexOutOfBounds|NullPointer|ClassCast|Negative"
        + "ArraySize|ArrayStore)?Exception", "catch \\(Throwable", "\\bSystem\\.(?!arraycopy\\b)",
  };

  private FaceTest() {}

  public static void main(String[] args) throws Exception {
    face();
    members();
    nested();
    source();
    CHECK.finish();
  }

  private static void face() {
    List<String> want = new ArrayList<>(Arrays.asList(FACE));
    List<String> got = new ArrayList<>();
    for (Method method : Songnations.class.getDeclaredMethods()) {
      if (!Modifier.isPrivate(method.getModifiers())) {
        got.add(nameOf(method));
        CHECK.due(method + " is public alone", Modifier.PUBLIC, () -> method.getModifiers());
      }
    }
    Collections.sort(want);
    Collections.sort(got);
    CHECK.due("the public methods", want, () -> got);
    CHECK.due("public and final", Modifier.PUBLIC | Modifier.FINAL,
        () -> Songnations.class.getModifiers());
  }

  private static String nameOf(Method method) {
    return method.getReturnType() + " " + method.getName()
        + namesOf(method.getParameterTypes(), "(", ")")
        + (method.getExceptionTypes().length == 0
            ? "" : namesOf(method.getExceptionTypes(), " throws ", ""));
  }

  private static String namesOf(Class<?>[] types, String ahead, String behind) {
    List<String> names = new ArrayList<>();
    for (Class<?> type : types) {
      names.add(type.getSimpleName());
    }
    return ahead + String.join(", ", names) + behind;
  }

  private static void members() {
    Set<String> names = new HashSet<>();
    for (String line : FACE) {
      names.add(line.substring(line.indexOf(' ') + 1, line.indexOf('(')));
    }
    Constructor<?>[] constructors = Songnations.class.getDeclaredConstructors();
    CHECK.due("constructors", 1, () -> constructors.length);
    CHECK.due("the constructor", "public Songnations()", () -> constructors[0].toString());
    for (Field field : Songnations.class.getDeclaredFields()) {
      int modifiers = field.getModifiers();
      CHECK.due(field + " is private", true, () -> Modifier.isPrivate(modifiers));
      CHECK.due(field + " is final, if static", true,
          () -> !Modifier.isStatic(modifiers) || Modifier.isFinal(modifiers));
    }
    for (Method method : Songnations.class.getDeclaredMethods()) {
      CHECK.due(method + " has few parameters", true, () -> method.getParameterCount() <= 7);
      CHECK.due(method + " bears no public name", false,
          () -> Modifier.isPrivate(method.getModifiers()) && names.contains(method.getName()));
    }
  }

  private static void nested() {
    Class<?>[] classes = Songnations.class.getDeclaredClasses();
    CHECK.due("some twelve classes", true, () -> classes.length <= 12);
    for (Class<?> its : classes) {
      int modifiers = its.getModifiers();
      CHECK.due(its + " is not public or protected", false,
          () -> Modifier.isPublic(modifiers) || Modifier.isProtected(modifiers));
      CHECK.due(its + " has some twenty fields", true, () -> its.getDeclaredFields().length <= 24);
      for (Field field : its.getDeclaredFields()) {
        CHECK.due(field + " is final, if static", true,
            () -> !Modifier.isStatic(field.getModifiers()) || Modifier.isFinal(field.getModifiers()));
      }
    }
  }

  private static void source() throws Exception {
    String text = Files.readString(Path.of("src/main/java/Songnations.java"));
    String code = text.replaceAll("(?s)/\\*.*?\\*/", "").replaceAll("//[^\n]*", "");
    String bare = code.replaceAll("\"[^\"\n]*\"", "\"\"");
    for (String pattern : LEFT_OUT) {
      Matcher matcher = Pattern.compile(pattern, Pattern.MULTILINE).matcher(bare);
      CHECK.due("the source has " + pattern, false, () -> matcher.find());
    }
    // The signs of texts are 1 to 127.
    CHECK.due("the code has other signs", false, () -> code.matches("(?s).*[^\\x01-\\x7f].*"));
  }
}
