import java.io.IOException;
import java.nio.file.Files;
import java.nio.file.Path;
import java.util.regex.Matcher;
import java.util.regex.Pattern;

/** README.md's example: each call answers what the words behind it begin with. */
public final class ReadmeExample {
  private static final Pattern CALL = Pattern.compile("s\\.(\\w+)\\((.*)\\); *// (true|false|-?\\d+)\\b.*");

  private static String example() throws IOException {
    String readme = Files.readString(Path.of("README.md"));
    Matcher block = Pattern.compile("(?s)```java\n(.*?)```").matcher(readme);
    return block.find() ? block.group(1) : "";
  }

  private static long number(String answer) {
    return answer.equals("true") ? 1 : answer.equals("false") ? 0 : Long.parseLong(answer);
  }

  public static void main(String[] args) throws IOException {
    Runs.sentence("README.md", "The answer of each call stands behind it");
    String before = "";
    for (String line : example().split("\n")) {
      Matcher call = CALL.matcher(line);
      if (call.matches()) {
        String told = (call.group(1) + " " + call.group(2).replace(",", "")).trim();
        Runs.due(before, told, number(call.group(3)));
        before = Runs.join(before, told);
      } else if (!line.equals("RefinedSpline s = new RefinedSpline();")) {
        Runs.fault("no answer is told in the line: " + line);
      }
    }
    if (before.isEmpty()) Runs.fault("there is no example");
    Runs.end("ReadmeExample");
  }
}
