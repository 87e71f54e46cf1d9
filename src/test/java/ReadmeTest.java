import java.io.IOException;
import java.nio.file.Files;
import java.nio.file.Path;
import java.util.HashMap;
import java.util.List;
import java.util.Map;
import java.util.regex.Matcher;
import java.util.regex.Pattern;

/** README.md tells calls with their answers, and the findings; both are to be so. */
public final class ReadmeTest {
  private static final Pattern CALL = Pattern.compile("(?:int (\\w+) = )?x\\.(\\w+)\\((.*?)\\);\\s*// (-?\\d+): .*");
  private static final List<String> FINDINGS = List.of("BEYOND", "FULL", "KIND", "NONE", "STATE", "MISSING", "SIZE");

  public static void main(String[] args) throws IOException {
    String text = Files.readString(Path.of(System.getProperty("feltedwash.readme", "README.md")));
    callsAnswerAsTold(text);
    findingsAreTheDocuments(text);
    testsAreAllListed(text);
    Due.end();
  }

  private static void callsAnswerAsTold(String text) {
    int begin = text.indexOf("```java\n") + 8;
    String[] lines = text.substring(begin, text.indexOf("```", begin)).trim().split("\n");
    Due.that("first an object is made", lines[0].equals("FeltedWash x = new FeltedWash();"));
    FeltedWash x = new FeltedWash();
    Map<String, Integer> named = new HashMap<>();
    for (int i = 1; i < lines.length; i++) {
      Matcher call = CALL.matcher(lines[i]);
      Due.that("a call with its answer: " + lines[i], call.matches());
      if (call.matches()) {
        long got = ask(x, call.group(2), call.group(3), named);
        Due.is(lines[i], got, Long.parseLong(call.group(4)));
        named.put(call.group(1), (int) got);
      }
    }
    Due.that("there are calls", lines.length > 1);
  }

  private static long ask(FeltedWash x, String name, String told, Map<String, Integer> named) {
    String[] words = told.isEmpty() ? new String[0] : told.split(", ");
    int[] arguments = new int[5];
    for (int i = 0; i < words.length; i++) {
      arguments[i] = named.containsKey(words[i]) ? named.get(words[i]) : Integer.decode(words[i]);
    }
    return Calls.ask(x, name, arguments, arguments[2]);
  }

  private static void findingsAreTheDocuments(String text) {
    for (int which = 0; which < FINDINGS.size(); which++) {
      String row = "| " + FINDINGS.get(which) + " | " + (Due.BEYOND - which) + " | " + which + " |";
      Due.that("README.md has " + row, text.contains(row));
    }
  }

  /** A test that is not in the table is one that nobody finds. */
  private static void testsAreAllListed(String text) throws IOException {
    Path tests = Path.of(System.getProperty("feltedwash.tests", "src/test/java"));
    try (var files = Files.list(tests)) {
      for (Path file : files.toList()) {
        String name = file.getFileName().toString().replace(".java", "");
        Due.that("README.md lists " + name, !name.endsWith("Test") || text.contains("| " + name + " | "));
      }
    }
  }
}
