import java.lang.reflect.Field;
import java.lang.reflect.Method;
import java.lang.reflect.Modifier;
import java.nio.charset.StandardCharsets;
import java.nio.file.Files;
import java.nio.file.Path;
import java.util.Set;
import java.util.TreeSet;
import java.util.regex.Matcher;
import java.util.regex.Pattern;

/** README.md: each call of its example is made, in order, and answers what stands behind it; nothing of the face is missing. */
public final class ReadmeTests {
  private static final Pattern CALL = Pattern.compile("arch\\.(\\w+)\\(([^)]*)\\); *// (-?\\d+)");
  private static final Pattern ROW = Pattern.compile("\\| `(\\w+)` \\| (-?\\d+) \\|");
  private final Due due = new Due();

  public static void main(String[] args) throws Exception {
    ReadmeTests tests = new ReadmeTests();
    String text = Files.readString(Path.of("README.md"), StandardCharsets.UTF_8);
    tests.example(text);
    tests.constants(text);
    tests.due.end();
  }

  private void example(String text) throws Exception {
    StandingArch arch = new StandingArch();
    Set<String> missing = new TreeSet<>(), unlisted = new TreeSet<>();
    for (Method method : StandingArch.class.getDeclaredMethods()) {
      if (!Modifier.isPublic(method.getModifiers())) continue;
      missing.add(method.getName());
      if (!text.contains("| `" + method.getName() + "(")) unlisted.add(method.getName());
    }
    for (Matcher call = CALL.matcher(text); call.find(); missing.remove(call.group(1)))
      due.is(call.group(), answer(arch, call.group(1), call.group(2)), Long.parseLong(call.group(3)));
    due.isTrue("calls that the example does not show: " + missing, missing.isEmpty());
    due.isTrue("calls that the table does not tell: " + unlisted, unlisted.isEmpty());
  }

  private static long answer(StandingArch arch, String name, String numbers) throws Exception {
    String[] told = numbers.isEmpty() ? new String[0] : numbers.split(", *");
    Class<?>[] types = new Class<?>[told.length];
    Object[] arguments = new Object[told.length];
    for (int t = 0; t < told.length; t++) {
      types[t] = int.class;
      arguments[t] = Integer.valueOf(told[t]);
    }
    return ((Number) StandingArch.class.getMethod(name, types).invoke(arch, arguments)).longValue();
  }

  private void constants(String text) throws Exception {
    int rows = 0;
    for (Matcher row = ROW.matcher(text); row.find(); rows++)
      due.is(row.group(1), StandingArch.class.getField(row.group(1)).getInt(null), Long.parseLong(row.group(2)));
    int constants = 0;
    for (Field field : StandingArch.class.getFields()) if (Modifier.isStatic(field.getModifiers())) constants++;
    due.is("constants that the table tells", rows, constants);
  }
}
