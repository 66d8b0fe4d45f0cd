import java.io.IOException;
import java.nio.file.Files;
import java.nio.file.Path;
import java.util.Arrays;
import java.util.List;
import java.util.Map;
import java.util.regex.Matcher;
import java.util.regex.Pattern;

/** The examples of README.md: its calls, each with the answer or exception that its comment begins with. */
public final class ReadmeTest {
  private static final Pattern CALL = Pattern.compile("x\\.(\\w+)\\(([^)]*)\\);\\s+// (.*)");
  private static final Pattern NUMBER = Pattern.compile("(-?\\d+)\\b.*");
  private static final String THROWS = "throws ";
  // Their comments tell what they put, not what they answer.
  private static final List<String> UNTOLD = List.of("define", "method");
  private static final Map<String, Class<? extends RuntimeException>> EXCEPTIONS = Map.of(
      "IllegalStateException", Check.STATE,
      "UnsupportedOperationException", Check.SUPPORT);

  public static void main(String[] args) throws IOException {
    JavaChain x = new JavaChain();
    int seen = 0;
    for (String line : Files.readAllLines(Path.of("README.md"))) {
      Matcher call = CALL.matcher(line);
      if (call.matches()) {
        seen++;
        check(x, line, call);
      }
    }
    Check.due("all examples were found", 24, seen);
    Check.end();
  }

  private static void check(JavaChain x, String line, Matcher call) {
    String comment = call.group(3);
    if (comment.startsWith(THROWS)) {
      Check.thrown(line, EXCEPTIONS.get(comment.substring(THROWS.length())), () -> answer(x, call));
      return;
    }
    int got = answer(x, call);
    Matcher number = NUMBER.matcher(comment);
    if (number.matches()) {
      Check.due(line, Integer.parseInt(number.group(1)), got);
    } else if (!UNTOLD.contains(call.group(1))) {
      Check.tell(line, "a comment with its answer", comment);
    }
  }

  private static int answer(JavaChain x, Matcher call) {
    String[] words = call.group(2).isEmpty() ? new String[0] : call.group(2).split(", ");
    int[] n = Arrays.stream(words).filter(w -> w.matches("-?\\d+")).mapToInt(Integer::parseInt).toArray();
    boolean last = words.length > 0 && words[words.length - 1].equals("true");
    switch (call.group(1)) {
      case "define":
        return x.define(n[0], n[1]);
      case "method":
        return x.method(n[0], n[1], n[2], n[3], n[4]);
      case "code":
        return x.code(n[0], n[1], n[2], n[3]);
      case "catcher":
        return x.catcher(n[0], n[1], n[2], n[3], n[4]);
      case "verify":
        return x.verify();
      case "map":
        return x.map(n[0], n[1], n[2], n[3]);
      case "fault":
        return x.fault(last);
      case "run":
        return x.run(n[0], n[1], n[2], n[3], last);
      case "outcome":
        return x.outcome(n[0]);
      default:
        throw new AssertionError("a call that the README did not make: " + call.group());
    }
  }
}
