import java.io.IOException;
import java.lang.reflect.Constructor;
import java.lang.reflect.Field;
import java.lang.reflect.Method;
import java.lang.reflect.Modifier;
import java.nio.charset.StandardCharsets;
import java.nio.file.Files;
import java.nio.file.Path;
import java.util.Arrays;
import java.util.Set;
import java.util.TreeSet;
import java.util.regex.Matcher;
import java.util.regex.Pattern;

/** The document's public face, and the rules of LANGUAGE.md that a look at the class or its text can tell. */
public final class FaceTests {
  private static final String[] METHODS = {"int joints(int)", "int at(int, int)", "int edges(int, int, int)", "int load(int, int)",
    "int sheet(int, int, int)", "int drop(int)", "int item(int, int, int, int)", "int read(int, int, int)", "int told(int, int)",
    "int stands()", "long thrust(int, int)", "long height(int, int)", "int bar(int)", "int fits(int, int, int, int)",
    "long factor(int)", "int harms(int)", "int falls()", "int spread(int)"};
  private static final String[] CONSTANTS = {"BAD", "NOT", "FULL", "NONE", "NULL", "CAST", "INDEX", "SIZE"};
  private static final int[] VALUES = {-1, -2, -3, -4, -11, -12, -13, -14};
  private static final String[] BARRED_WORDS = {"throw", "throws", "try", "catch", "synchronized", "assert", "finally", "goto",
    "System\\.(?!arraycopy)\\w+", "\\w+Exact", "->", "::", "double", "float", "package", "native", "volatile", "transient",
    "Thread", "Random", "Object", "Exception", "Error", "import (?!java\\.util\\.(Arrays|ArrayList|List|Iterator);)"};
  private final Due due = new Due();

  public static void main(String[] args) throws Exception {
    FaceTests tests = new FaceTests();
    tests.constants();
    tests.methods();
    tests.insideClasses();
    tests.words();
    tests.due.end();
  }

  private void constants() throws Exception {
    Set<String> known = new TreeSet<>(Arrays.asList(CONSTANTS));
    for (int t = 0; t < CONSTANTS.length; t++) due.is(CONSTANTS[t], StandingArch.class.getField(CONSTANTS[t]).getInt(null), VALUES[t]);
    for (Field field : StandingArch.class.getDeclaredFields()) {
      boolean isFace = known.contains(field.getName());
      due.isTrue(field + " is the face's or private", isFace || Modifier.isPrivate(field.getModifiers()));
    }
  }

  private void methods() throws Exception {
    due.isTrue("public and final", Modifier.isPublic(StandingArch.class.getModifiers()) && Modifier.isFinal(StandingArch.class.getModifiers()));
    Constructor<?>[] makers = StandingArch.class.getDeclaredConstructors();
    due.isTrue("one constructor", makers.length == 1 && makers[0].getParameterCount() == 0 && Modifier.isPublic(makers[0].getModifiers()));
    Set<String> want = new TreeSet<>(Arrays.asList(METHODS)), got = new TreeSet<>(), names = new TreeSet<>();
    for (String method : METHODS) names.add(method.replaceAll("^\\w+ (\\w+).*", "$1"));
    for (Method method : StandingArch.class.getDeclaredMethods()) {
      String types = Arrays.toString(method.getParameterTypes()).replaceAll("[\\[\\]]", "");
      if (Modifier.isPublic(method.getModifiers())) got.add(method.getReturnType() + " " + method.getName() + "(" + types + ")");
      else due.isTrue(method + " is private, with a name of its own", Modifier.isPrivate(method.getModifiers()) && !names.contains(method.getName()));
      due.isTrue(method + " declares nothing thrown", method.getExceptionTypes().length == 0);
      due.isTrue(method + " takes at most seven", method.getParameterCount() <= 7);
    }
    due.isTrue("the face is " + want + ", not " + got, want.equals(got));
  }

  private void insideClasses() {
    Class<?>[] inside = StandingArch.class.getDeclaredClasses();
    due.isTrue("at most twelve classes", inside.length <= 11);
    for (Class<?> one : inside) {
      due.isTrue(one + " is static, and not public", Modifier.isStatic(one.getModifiers()) && !Modifier.isPublic(one.getModifiers())
        && !Modifier.isProtected(one.getModifiers()));
      for (Field field : one.getDeclaredFields())
        due.isTrue(field + " is no static state", !Modifier.isStatic(field.getModifiers()) || Modifier.isFinal(field.getModifiers()));
    }
  }

  private void words() throws IOException {
    String text = Files.readString(Path.of("src/main/java/StandingArch.java"), StandardCharsets.UTF_8);
    String code = text.replaceAll("(?s)/\\*.*?\\*/", " ").replaceAll("//[^\n]*", " ");
    for (String word : BARRED_WORDS) {
      String edge = Character.isLetter(word.charAt(0)) ? "\\b" : "";
      Matcher found = Pattern.compile(edge + word + (Character.isLetter(word.charAt(word.length() - 1)) ? "\\b" : "")).matcher(code);
      due.isTrue("the program has no " + word, !found.find());
    }
  }
}
