import java.io.IOException;
import java.lang.reflect.Method;
import java.nio.file.Files;
import java.nio.file.Path;
import java.util.ArrayList;
import java.util.List;
import java.util.Set;
import java.util.TreeSet;
import java.util.regex.Matcher;
import java.util.regex.Pattern;

/** The example in README.md, run as it stands there: each call answers what its comment begins with. */
public final class ReadmeTest {
  private static final Pattern CALL = Pattern.compile("x\\.(\\w+)\\((.*)\\); *// (true|false|-?\\d+)(:.*)?");
  private static int wrong = 0;

  private static void wrong(String what) {
    wrong++;
    System.out.println(what);
  }

  /** The lines of the example but its first, which makes the object. */
  private static List<String> exampleCalls(List<String> readme) {
    int from = readme.indexOf("```java");
    if (from < 0) return List.of();
    List<String> rest = readme.subList(from + 1, readme.size());
    int to = rest.indexOf("```");
    if (to < 1 || !rest.get(0).startsWith("RoadTurns x = new RoadTurns();")) return List.of();
    return rest.subList(1, to);
  }

  private static Method methodNamed(String name) {
    for (Method m : RoadTurns.class.getDeclaredMethods()) {
      if (m.getName().equals(name)) return m;
    }
    return null;
  }

  private static Object argument(Class<?> type, String text) {
    if (type == boolean.class) return Boolean.valueOf(text);
    if (type == long.class) return Long.valueOf(text);
    return Integer.valueOf(text);
  }

  private static Object answer(RoadTurns x, Method method, String texts) throws ReflectiveOperationException {
    String[] each = texts.isEmpty() ? new String[0] : texts.split(", ");
    List<Object> arguments = new ArrayList<>();
    for (int i = 0; i < each.length; i++) arguments.add(argument(method.getParameterTypes()[i], each[i]));
    return method.invoke(x, arguments.toArray());
  }

  public static void main(String[] args) throws IOException, ReflectiveOperationException {
    RoadTurns x = new RoadTurns();
    Set<String> unused = new TreeSet<>(
        Set.of("size", "road", "close", "cost", "bar", "route", "length", "node", "within"));
    for (String line : exampleCalls(Files.readAllLines(Path.of("README.md")))) {
      Matcher call = CALL.matcher(line);
      Method method = call.matches() ? methodNamed(call.group(1)) : null;
      if (method == null) {
        wrong("not a call with its answer: " + line);
        continue;
      }
      unused.remove(call.group(1));
      String got = answer(x, method, call.group(2)).toString();
      if (!got.equals(call.group(3))) wrong(line + " answered " + got);
    }
    if (!unused.isEmpty()) wrong("the example does not use " + unused);
    System.out.println(wrong == 0 ? "the example answers as README.md says" : wrong + " lines are not as due");
    if (wrong != 0) System.exit(1);
  }
}
