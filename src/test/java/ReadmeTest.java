import java.io.IOException;
import java.nio.file.Files;
import java.nio.file.Path;
import java.util.regex.Matcher;
import java.util.regex.Pattern;

/** The calls that README.md shows under "Use" answer what it writes behind them. */
public final class ReadmeTest {
  private static final Pattern CALL =
      Pattern.compile("x\\.(\\w+)\\((.*)\\); *// (true|false|-?\\d+)(:.*)?");

  public static void main(String[] args) throws IOException {
    Checks.sentence("README.md says how to use the class");
    WordArithmetic x = new WordArithmetic();
    for (String line : Files.readAllLines(Path.of("README.md"))) {
      if (line.startsWith("x.")) {
        dueLine(x, line);
      }
    }
    Checks.end();
  }

  private static void dueLine(WordArithmetic x, String line) {
    Matcher call = CALL.matcher(line);
    boolean isCall = call.matches();
    Checks.due("that a call and its answer stand in: " + line, isCall, true);
    if (isCall) {
      Checks.due(line, answer(x, call.group(1), numbers(call.group(2))), number(call.group(3)));
    }
  }

  private static long answer(WordArithmetic x, String name, long[] given) {
    switch (name) {
      case "takes": return x.takes((int) given[0]);
      case "takesLongs": return x.takesLongs((int) given[0]) ? 1L : 0L;
      case "leavesLong": return x.leavesLong((int) given[0]) ? 1L : 0L;
      case "work": return x.work((int) given[0], given[1], given[2]);
      case "result": return x.result();
      default: throw new IllegalStateException(name);
    }
  }

  private static long[] numbers(String given) {
    if (given.isEmpty()) {
      return new long[0];
    }
    String[] parts = given.split(", ");
    long[] numbers = new long[parts.length];
    for (int i = 0; i < parts.length; i++) {
      numbers[i] = number(parts[i]);
    }
    return numbers;
  }

  private static long number(String text) {
    switch (text) {
      case "true": return 1L;
      case "false": return 0L;
      default: return Long.parseLong(text.replace("L", ""));
    }
  }
}
