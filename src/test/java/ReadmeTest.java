import java.io.IOException;
import java.lang.reflect.Method;
import java.nio.file.Files;
import java.nio.file.Path;
import java.util.regex.Matcher;
import java.util.regex.Pattern;

/** The calls that README.md shows answer as it is written behind them. */
public final class ReadmeTest {
  private static final Pattern BLOCK = Pattern.compile("(?s)```java\n(.*?)```");
  private static final Pattern CALL = Pattern.compile("mind\\.(\\w+)\\(([-0-9, ]*)\\); *// (-?\\d+)(:.*)?");
  private static final Pattern TEXT = Pattern.compile("for \\(char c : \"(.*)\"\\.toCharArray\\(\\)\\) mind\\.feed\\(c\\);");
  private static int wrong = 0;
  private static int calls = 0;

  public static void main(String[] args) throws IOException, ReflectiveOperationException {
    String readme = Files.readString(Path.of("README.md"));
    Matcher block = BLOCK.matcher(readme);
    while (block.find()) run(block.group(1));
    if (calls == 0) fault("README.md shows no call");
    for (Method m : PromiseMind.class.getMethods()) {
      if (m.getDeclaringClass() == PromiseMind.class && !readme.contains("`" + m.getName() + "`")) {
        fault("README.md doesn't name " + m.getName() + "()");
      }
    }
    System.out.println(wrong == 0 ? calls + " calls of README.md answer as it says" : wrong + " faults in README.md");
    if (wrong != 0) System.exit(1);
  }

  private static void fault(String what) {
    wrong++;
    System.out.println(what);
  }

  private static void run(String lines) throws ReflectiveOperationException {
    PromiseMind mind = new PromiseMind();
    for (String line : lines.split("\n")) {
      Matcher call = CALL.matcher(line);
      Matcher text = TEXT.matcher(line);
      if (call.matches()) {
        calls++;
        long got = answer(mind, call.group(1), call.group(2));
        if (got != Long.parseLong(call.group(3))) fault(line + " .. answered " + got);
      } else if (text.matches()) {
        for (char c : text.group(1).toCharArray()) mind.feed(c);
      } else if (!line.isEmpty() && !line.startsWith("//") && !line.equals("PromiseMind mind = new PromiseMind();")) {
        fault("not understood: " + line);
      }
    }
  }

  private static long answer(PromiseMind mind, String name, String told) throws ReflectiveOperationException {
    String[] words = told.isEmpty() ? new String[0] : told.split(", *");
    for (Method m : PromiseMind.class.getMethods()) {
      if (!m.getName().equals(name) || m.getParameterCount() != words.length) continue;
      Object[] args = new Object[words.length];
      for (int i = 0; i < words.length; i++) {
        if (m.getParameterTypes()[i] == long.class) args[i] = Long.valueOf(words[i]);
        else args[i] = Integer.valueOf(words[i]);
      }
      return ((Number) m.invoke(mind, args)).longValue();
    }
    throw new NoSuchMethodException(name);
  }
}
