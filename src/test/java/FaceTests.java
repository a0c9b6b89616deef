import java.lang.reflect.Constructor;
import java.lang.reflect.Field;
import java.lang.reflect.Method;
import java.lang.reflect.Modifier;
import java.nio.charset.StandardCharsets;
import java.nio.file.Files;
import java.nio.file.Path;
import java.util.Arrays;
import java.util.Set;
import java.util.TreeSet;
import java.util.regex.Matcher;
import java.util.regex.Pattern;

/** The document's public face, and the rules of LANGUAGE.md that a look at the class or its text can tell. */
public final class FaceTests {
  private static final String[] METHODS = {"int joints(int)", "int at(int, int)", "int edges(int, int, int)", "int load(int, int)",
    "int sheet(int, int, int)", "int drop(int)", "int item(int, int, int, int)", "int read(int, int, int)", "int told(int, int)",
    "int stands()", "long thrust(int, int)", "long height(int, int)", "int bar(int)", "int fits(int, int, int, int)",
    "long factor(int)", "int harms(int)", "int falls()", "int spread(int)"};
  private static final String[] CONSTANTS = {"BAD", "NOT", "FULL", "NONE", "NULL", "CAST", "INDEX", "SIZE"};
  private static final int[] VALUES = {-1, -2, -3, -4, -11, -12, -13, -14};
  private static final int PUBLIC_CONSTANT = Modifier.PUBLIC | Modifier.STATIC | Modifier.FINAL;
  private static final String[] HEADINGS = {"// ---- 1 joints", "// ---- 2 lines", "// ---- 3 what may become of it"};
  private static final String[] FIRST_UNDER_HEADING = {"joints", "stands", "factor"};
  private static final Set<Class<?>> CONSTANT_TYPES = Set.of(int.class, long.class, boolean.class, char.class, String.class);
  private static final int MOST_PARAMETERS = 7, MOST_LINES = 60, MOST_FIELDS = 20, MOST_CLASSES = 12;
  private static final String[] BARRED_WORDS = {"throw", "throws", "try", "catch", "synchronized", "assert", "finally", "goto",
    "System\\.(?!arraycopy)\\w+", "\\w+Exact", "->", "::", "double", "float", "package", "native", "volatile", "transient",
    "Thread", "Random", "Object", "Exception", "Error", "static \\{", "import (?!java\\.util\\.(Arrays|ArrayList|List|Iterator);)"};
  private final Due due = new Due();

  public static void main(String[] args) throws Exception {
    FaceTests tests = new FaceTests();
    tests.constants();
    tests.methods();
    tests.insideClasses();
    String text = Files.readString(Path.of("src/main/java/StandingArch.java"), StandardCharsets.UTF_8);
    String code = text.replaceAll("(?s)/\\*.*?\\*/", " ").replaceAll("//[^\n]*", " ");
    tests.headings(text);
    tests.words(code);
    tests.madeInConstructorsAlone(code);
    tests.shortMethods(text);
    tests.due.end();
  }

  private void constants() throws Exception {
    Set<String> known = new TreeSet<>(Arrays.asList(CONSTANTS));
    for (int t = 0; t < CONSTANTS.length; t++) {
      Field constant = StandingArch.class.getField(CONSTANTS[t]);
      due.is(CONSTANTS[t], constant.getInt(null), VALUES[t]);
      due.isTrue(constant + " is public static final int", constant.getModifiers() == PUBLIC_CONSTANT && constant.getType() == int.class);
    }
    for (Field field : StandingArch.class.getDeclaredFields())
      due.isTrue(field + " is the face's or private", known.contains(field.getName()) || Modifier.isPrivate(field.getModifiers()));
  }

  private void methods() {
    due.isTrue("public and final", Modifier.isPublic(StandingArch.class.getModifiers()) && Modifier.isFinal(StandingArch.class.getModifiers()));
    due.isTrue("of no package", StandingArch.class.getPackageName().isEmpty());
    Constructor<?>[] makers = StandingArch.class.getDeclaredConstructors();
    due.isTrue("one constructor", makers.length == 1 && makers[0].getParameterCount() == 0 && Modifier.isPublic(makers[0].getModifiers()));
    Set<String> want = new TreeSet<>(Arrays.asList(METHODS)), got = new TreeSet<>(), names = new TreeSet<>();
    for (String method : METHODS) names.add(nameOf(method));
    for (Method method : StandingArch.class.getDeclaredMethods()) {
      String types = Arrays.toString(method.getParameterTypes()).replaceAll("[\\[\\]]", "");
      if (Modifier.isPublic(method.getModifiers())) got.add(method.getReturnType() + " " + method.getName() + "(" + types + ")");
      else due.isTrue(method + " is private, with a name of its own", Modifier.isPrivate(method.getModifiers()) && !names.contains(method.getName()));
      due.isTrue(method + " declares nothing thrown", method.getExceptionTypes().length == 0);
    }
    due.isTrue("the face is " + want + ", not " + got, want.equals(got));
  }

  private static String nameOf(String method) { return method.replaceAll("^\\w+ (\\w+).*", "$1"); }

  private void insideClasses() {
    Class<?>[] inside = StandingArch.class.getDeclaredClasses();
    due.isTrue("at most twelve classes", inside.length < MOST_CLASSES);
    looks(StandingArch.class);
    for (Class<?> one : inside) {
      due.isTrue(one + " is static, and not public", Modifier.isStatic(one.getModifiers()) && !Modifier.isPublic(one.getModifiers())
        && !Modifier.isProtected(one.getModifiers()));
      looks(one);
    }
  }

  /** The rules that each class keeps to: static fields, how many fields, how many parameters. */
  private void looks(Class<?> one) {
    int fields = 0;
    for (Field field : one.getDeclaredFields()) {
      boolean isStatic = Modifier.isStatic(field.getModifiers());
      if (!isStatic) fields++;
      due.isTrue(field + " is no static state", !isStatic || (Modifier.isFinal(field.getModifiers()) && CONSTANT_TYPES.contains(field.getType())));
    }
    due.isTrue(one + " has some twenty fields at most", fields <= MOST_FIELDS);
    for (Method method : one.getDeclaredMethods()) due.isTrue(method + " takes at most seven", method.getParameterCount() <= MOST_PARAMETERS);
  }

  /** "Ahead of the calls .. the interface says": each heading stands once, just ahead of its calls, all in the document's order. */
  private void headings(String text) {
    int place = 0, heading = 0;
    for (String method : METHODS) {
      if (heading < HEADINGS.length && nameOf(method).equals(FIRST_UNDER_HEADING[heading])) {
        int said = text.indexOf(HEADINGS[heading]);
        due.isTrue(HEADINGS[heading] + " stands ahead of " + method, said > place && said == text.lastIndexOf(HEADINGS[heading]));
        place = said;
        heading++;
      }
      int next = text.indexOf("public " + method.replaceAll("\\(.*", "("));
      due.isTrue(method + " stands where the document has it", next > place);
      place = next;
    }
    due.is("headings met", heading, HEADINGS.length);
  }

  private void words(String code) {
    for (String word : BARRED_WORDS) {
      String edge = Character.isLetter(word.charAt(0)) ? "\\b" : "";
      Matcher found = Pattern.compile(edge + word + (Character.isLetter(word.charAt(word.length() - 1)) ? "\\b" : "")).matcher(code);
      due.isTrue("the program has no " + word, !found.find());
    }
  }

  /** All calls of a run live in one room: objects are made with the object they belong to, never by a call. */
  private void madeInConstructorsAlone(String code) {
    String body = code.replaceFirst("(?s)public StandingArch\\(\\) \\{.*?\\n    \\}", "");
    String calls = body.replaceAll("(private )?final [\\w\\[\\]]+ \\w+ = new [^;]*;", "");
    due.isTrue("the fields and the constructor are found", calls.length() < body.length() && body.length() < code.length());
    due.isTrue("no call makes an object", !Pattern.compile("\\b(new|clone|copyOf|copyOfRange)\\b").matcher(calls).find());
  }

  private void shortMethods(String text) {
    String[] lines = text.split("\n");
    int begun = -1, methods = 0;
    for (int t = 0; t < lines.length; t++) {
      boolean begins = lines[t].matches("(    |        )\\S.*\\) \\{") && !lines[t].matches("\\s*(if|for|while|switch|\\}).*");
      if (begins) begun = t;
      if (begun < 0 || !lines[t].equals(lines[begun].replaceAll("\\S.*", "}"))) continue;
      methods++;
      due.isTrue("the method of line " + (begun + 1) + " is short", t - begun + 1 <= MOST_LINES);
      begun = -1;
    }
    due.isTrue("methods were found", methods > METHODS.length);
  }
}
