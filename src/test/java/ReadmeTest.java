import java.io.IOException;
import java.lang.reflect.Method;
import java.nio.file.Files;
import java.nio.file.Path;
import java.util.Arrays;
import java.util.List;
import java.util.TreeSet;
import java.util.regex.Matcher;
import java.util.regex.Pattern;
import java.util.stream.Stream;

/** The calls that README.md shows, read from it and made: each has the answer told behind it. */
public final class ReadmeTest {
  private static final String COMMENT = "( *//.*)?";
  private static final Pattern NEW = Pattern.compile("FrameRow x = new FrameRow\\(\\);" + COMMENT);
  private static final Pattern CALL =
      Pattern.compile("x\\.(\\w+)\\(([-\\d, ]*)\\); *// (-?\\d+|throws \\w+)(:.*)?");
  private static final Pattern ANY_CALL = Pattern.compile("\\bx\\.\\w+\\(");

  private final Checks checks = new Checks();
  private final TreeSet<String> methods = new TreeSet<>();
  private final TreeSet<String> thrown = new TreeSet<>();
  private boolean inCode = false;
  private Run x = null;
  private int made = 0;

  public static void main(String[] args) throws IOException, ReflectiveOperationException {
    new ReadmeTest().test(Files.readAllLines(Path.of("README.md")));
  }

  private void test(List<String> lines) throws ReflectiveOperationException {
    for (String line : lines) {
      testLine(line);
    }
    checks.due("README: calls that are shown are made", callsIn(lines), made);
    checks.due("README: all methods are shown", methodsOf(Frames.class), methods);
    checks.due("README: all exceptions are shown", exceptions(), thrown);
    checks.end();
  }

  private void testLine(String line) throws ReflectiveOperationException {
    if (line.startsWith("```")) {
      inCode = line.equals("```java");
      x = null;
    } else if (inCode && !line.isEmpty()) {
      testCode(line);
    }
  }

  private void testCode(String line) throws ReflectiveOperationException {
    Matcher shown = CALL.matcher(line);
    if (NEW.matcher(line).matches()) {
      x = new Run();
    } else if (shown.matches() && x != null) {
      testCall(shown.group(1), shown.group(2), shown.group(3).replace(' ', '.'));
    } else {
      checks.due("README: " + line, "a new object, or a call of it and its answer", "neither");
    }
  }

  private void testCall(String method, String list, String want)
      throws ReflectiveOperationException {
    Call call = callOf(method, list);
    checks.due("README: " + call, want, call.on(x));
    made++;
    methods.add(method);
    if (want.startsWith("throws.")) {
      thrown.add(want);
    }
  }

  private static Call callOf(String method, String list) throws ReflectiveOperationException {
    String[] texts = list.isEmpty() ? new String[0] : list.split(", ");
    Object[] arguments = Stream.of(texts).map(Integer::valueOf).toArray();
    Class<?>[] types = new Class<?>[arguments.length];
    Arrays.fill(types, int.class);
    return (Call) Call.class.getDeclaredMethod(method, types).invoke(null, arguments);
  }

  private static int callsIn(List<String> lines) {
    return lines.stream().mapToInt(line -> (int) ANY_CALL.matcher(line).results().count()).sum();
  }

  private static TreeSet<String> methodsOf(Class<?> face) {
    TreeSet<String> names = new TreeSet<>();
    for (Method method : face.getDeclaredMethods()) {
      names.add(method.getName());
    }
    return names;
  }

  private static TreeSet<String> exceptions() {
    return new TreeSet<>(List.of(
        Call.thrown(Checks.NO_SUCH), Call.thrown(Checks.ARGUMENT), Call.thrown(Checks.STATE)));
  }
}
