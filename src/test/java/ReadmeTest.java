import java.io.IOException;
import java.lang.reflect.Method;
import java.lang.reflect.Modifier;
import java.nio.file.Files;
import java.nio.file.Path;
import java.util.Arrays;
import java.util.Set;
import java.util.TreeSet;
import java.util.regex.Matcher;
import java.util.regex.Pattern;

/** What README.md, the third argument, says of the class: its example answers so, its table has the face. */
final class ReadmeTest extends Bench {
  private static final Pattern CALL = Pattern.compile("(?m)^x\\.(\\w+)\\(([-0-9, ]*)\\);\\s*//\\s*(-?\\d+)");
  private static final Pattern ROW = Pattern.compile("(?m)^\\| `(\\w+)\\(([\\w, ]*)\\)` \\|[^|]+\\|([^|]*)\\|$");
  private static final Pattern EXCEPTION = Pattern.compile("`(\\w+Exception)`");

  public static void main(String[] args) throws IOException, ReflectiveOperationException {
    String page = Files.readString(Path.of(args[2]));
    exampleAnswersSo(page);
    tableHasTheFace(page);
    testsAreNamed(page);
    finish("ReadmeTest");
  }

  private static Method called(String name) {
    for (Method method : AtomicRuntime.class.getDeclaredMethods()) {
      if (Modifier.isPublic(method.getModifiers()) && method.getName().equals(name)) {
        return method;
      }
    }
    throw new IllegalArgumentException("README.md calls what is not there: " + name);
  }

  private static void exampleAnswersSo(String page) throws ReflectiveOperationException {
    AtomicRuntime x = new AtomicRuntime();
    Set<String> names = new TreeSet<>();
    int calls = 0;
    Matcher line = CALL.matcher(page);
    while (line.find()) {
      Object[] operands = Pattern.compile(",\\s*").splitAsStream(line.group(2))
          .filter(text -> !text.isBlank()).map(Integer::valueOf).toArray();
      Number got = (Number) called(line.group(1)).invoke(x, operands);
      due(line.group(), got.longValue(), Long.parseLong(line.group(3)));
      names.add(line.group(1));
      calls++;
    }
    due("each line of the example has its answer", calls, page.lines().filter(text -> text.startsWith("x.")).count());
    due("the example calls all of the face", names.size(), 10);
  }

  private static void tableHasTheFace(String page) {
    Set<String> names = new TreeSet<>();
    Matcher row = ROW.matcher(page);
    while (row.find()) {
      Method method = called(row.group(1));
      names.add(row.group(1));
      long operands = Arrays.stream(row.group(2).split(", ")).filter(text -> !text.isEmpty()).count();
      due("operands of " + row.group(1), operands, method.getParameterCount());
      StringBuilder said = new StringBuilder();
      Matcher exception = EXCEPTION.matcher(row.group(3));
      while (exception.find()) {
        said.append(exception.group(1)).append(' ');
      }
      StringBuilder thrown = new StringBuilder();
      for (Class<?> one : method.getExceptionTypes()) {
        thrown.append(one.getSimpleName()).append(' ');
      }
      due(row.group(1) + " throws " + thrown + ", README.md says " + said,
          said.toString().equals(thrown.toString()) ? 1 : 0, 1);
    }
    due("calls in the table", names.size(), 10);
  }

  private static void testsAreNamed(String page) throws IOException {
    try (var files = Files.list(Path.of("src/test/java"))) {
      for (String file : files.map(path -> path.getFileName().toString()).sorted().toList()) {
        if (file.endsWith("Test.java")) {
          due(file + " is named", page.contains("`" + file.replace(".java", "") + "`") ? 1 : 0, 1);
        }
      }
    }
  }
}
