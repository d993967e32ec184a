import java.io.IOException;
import java.lang.reflect.Method;
import java.nio.file.Files;
import java.nio.file.Path;
import java.util.regex.Matcher;
import java.util.regex.Pattern;

/** The example in README.md, call by call: each answers the number that ends its comment. */
public final class RingNamesReadme {
  private static final Pattern TEXT = Pattern.compile("for \\(char letter : \"([^\"]*)\"\\.toCharArray\\(\\)\\) \\{");
  private static final Pattern CALL = Pattern.compile("ring\\.(\\w+)\\(([-\\d, ]*)\\); +// .*: (-?\\d+)");
  private static int wrong = 0;
  private static int calls = 0;

  private static void miss(String what) {
    wrong++;
    System.out.println(what);
  }

  private static long answer(RingNames ring, String name, String[] numbers) throws ReflectiveOperationException {
    Class<?>[] types = new Class<?>[numbers.length];
    Object[] given = new Object[numbers.length];
    for (int i = 0; i < numbers.length; i++) {
      types[i] = int.class;
      given[i] = Integer.valueOf(numbers[i].strip());
    }
    Method call = RingNames.class.getMethod(name, types);
    return ((Number) call.invoke(ring, given)).longValue();
  }

  private static void line(RingNames ring, String line) throws ReflectiveOperationException {
    Matcher text = TEXT.matcher(line);
    Matcher call = CALL.matcher(line);
    if (text.matches()) {
      for (char letter : text.group(1).toCharArray()) ring.type(letter);
    } else if (call.matches()) {
      calls++;
      String numbers = call.group(2);
      long got = answer(ring, call.group(1), numbers.isEmpty() ? new String[0] : numbers.split(","));
      if (got != Long.parseLong(call.group(3))) miss(line + " answered " + got);
    } else if (!line.equals("RingNames ring = new RingNames();") && !line.equals("    ring.type(letter);") && !line.equals("}")) {
      miss("a line of the example that the test can't read: " + line);
    }
  }

  public static void main(String[] args) throws IOException, ReflectiveOperationException {
    String readme = Files.readString(Path.of("README.md"));
    int from = readme.indexOf("```java\n"), to = readme.indexOf("\n```\n", from);
    if (from < 0 || to < 0) {
      miss("README.md has no example");
    } else {
      RingNames ring = new RingNames();
      for (String line : readme.substring(from + 8, to).split("\n")) line(ring, line);
    }
    if (calls == 0) miss("the example makes no call");
    System.out.println(wrong == 0 ? "README's " + calls + " calls answer as it says" : wrong + " lines of README do not hold");
    if (wrong != 0) System.exit(1);
  }
}
