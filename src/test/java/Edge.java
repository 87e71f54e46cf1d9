import java.util.ArrayList;
import java.util.List;
import java.util.Map;
import java.util.Objects;
import java.util.Set;
import java.util.TreeSet;
import java.util.regex.Pattern;

/**
 * Sentences of the document, each with runs of calls that stand at its boundary and on both sides of it.
 *
 * <p>A run is told in a text, a call a line (or behind |), on a new object: {@code set 0 1 201 = BEYOND}. Behind = stands
 * the answer that is due: a number, a finding, or {@code may} for any answer that is no finding. A line without = only
 * leads to the next ones, and is no finding. {@code 8x garment 0 = 7} is eight calls, the last of which answers 7 (if a
 * finding is due, each). {@code type 'wool'} feeds a text, {@code basket 'wool'} feeds it and calls basket.
 *
 * <p>Behind each call with an answer, status is asked, and whether anything has changed that the call may not change:
 * with a finding, and with a call that only asks, nothing at all.
 */
final class Edge {
  private static final Map<String, Long> NUMBERS = Map.ofEntries(
      Map.entry("BEYOND", (long) Due.BEYOND), Map.entry("FULL", (long) Due.FULL), Map.entry("KIND", (long) Due.KIND),
      Map.entry("NONE", (long) Due.NONE), Map.entry("STATE", (long) Due.STATE), Map.entry("MISSING", (long) Due.MISSING),
      Map.entry("SIZE", (long) Due.SIZE), Map.entry("MIN", (long) Due.MIN), Map.entry("MAX", (long) Due.MAX));
  private static final String SECTION_ONE = "[A-Z]+|garment .*|person .*";
  /** What comes of THE TAPE comes to what there is, so it is other if either is. */
  private static final String AND_TOLD = "|told.*";
  private static final String NOTHING = "";

  private Edge() {}

  /** One call; with a text it is as many calls of feed as that takes, and basket if that is its name. */
  private record Step(String line, String name, int[] args, long last, String text, String due) {
    static Step of(String line) {
      int equals = line.lastIndexOf(" = ");
      String due = equals < 0 ? "" : line.substring(equals + 3).trim();
      String call = equals < 0 ? line : line.substring(0, equals).trim();
      int quote = call.indexOf('\'');
      String text = quote < 0 ? null : call.substring(quote + 1, call.lastIndexOf('\''));
      String[] words = (quote < 0 ? call : call.substring(0, quote)).trim().split(" +");
      int[] args = new int[Math.max(5, words.length)];
      long last = 0;
      for (int i = 1; i < words.length; i++) {
        last = number(words[i]);
        args[i - 1] = (int) last;
      }
      return new Step(line, words[0], args, last, text, due);
    }

    long ask(FeltedWash x) {
      long answer = 0;
      for (int i = 0; text != null && i < text.length(); i += 4) {
        int n = Math.min(4, text.length() - i);
        int bytes = 0;
        for (int k = i; k < i + n; k++) {
          bytes = bytes << 8 | text.charAt(k);
        }
        answer = x.feed(bytes, n);
      }
      return name.equals("type") ? answer : Calls.ask(x, name, args, last);
    }

    /** The number of the finding that is due, from 0, or -1. A number that only looks like a finding is none. */
    int finding() {
      boolean named = due.length() > 3 && Character.isUpperCase(due.charAt(0));
      return named ? (int) (Due.BEYOND - number(due)) : -1;
    }

    /** The names, as Whole gives them, of what the call may change. */
    String mayChange() {
      if (finding() >= 0) {
        return NOTHING;
      }
      String added = due.equals("may") ? "[0-7]" : due;
      return switch (name) {
        case "machine" -> args[0] == 0 ? "DEGREES" + AND_TOLD : "TOWELS" + AND_TOLD;
        case "garment" -> "GARMENTS|garment " + added + " [0-6]" + AND_TOLD;
        case "set" -> "garment " + args[0] + " " + args[1] + AND_TOLD;
        case "wash" -> "garment " + args[0] + " [1-5]" + AND_TOLD;
        case "draw" -> "garment " + args[0] + " [1256]" + AND_TOLD;
        case "turn" -> "garment " + args[0] + " 0" + AND_TOLD;
        case "person" -> "PEOPLE|person " + added + " [01]" + AND_TOLD;
        case "days" -> "DAY|garment [0-7] [145]" + AND_TOLD;
        case "lays" -> "garment [0-7] 1" + AND_TOLD;
        case "undo" -> SECTION_ONE + AND_TOLD;
        case "feed", "type", "wipe" -> "tape" + AND_TOLD;
        case "basket" -> (due.startsWith("-") ? "tape" : "tape|" + SECTION_ONE) + AND_TOLD;
        case "sheet", "write", "book" -> "sheet " + args[0] + " .*";
        case "copy" -> "sheet " + args[2] + " .*";
        case "image", "tear" -> "image.*";
        default -> NOTHING;
      };
    }
  }

  private static long number(String word) {
    Long named = NUMBERS.get(word);
    if (named != null) {
      return named;
    }
    return word.startsWith("0x") ? Long.parseUnsignedLong(word.substring(2), 16) : Long.parseLong(word);
  }

  static void holds(String sentence, String... runs) {
    for (String run : runs) {
      check(sentence, run);
    }
  }

  /** A run with values put for their names: {@code "sheet $s 8 1", "$s", 3}. */
  static String run(String told, Object... namesAndValues) {
    String run = told;
    for (int i = 0; i + 1 < namesAndValues.length; i += 2) {
      run = run.replace((String) namesAndValues[i], String.valueOf(namesAndValues[i + 1]));
    }
    return run;
  }

  /** The values from least to most may stand for * in a call behind a scene, and no other. */
  static void range(String sentence, String scene, String call, int least, int most) {
    for (int v : new int[] {least, most}) {
      check(sentence, scene + " | " + call.replace("*", Integer.toString(v)) + " = may");
    }
    for (int v : new int[] {least - 1, most + 1, Due.MIN, Due.MAX}) {
      check(sentence, scene + " | " + call.replace("*", Integer.toString(v)) + " = BEYOND");
    }
  }

  private static void check(String sentence, String run) {
    List<Step> before = new ArrayList<>();
    long[] findings = new long[7];
    for (String line : run.split("[\n|]")) {
      String bare = line.trim();
      if (!bare.isEmpty()) {
        oneLine(sentence, bare, before, findings);
      }
    }
    statusIs(sentence + " - at the end", replayed(before), findings);
  }

  private static void oneLine(String sentence, String line, List<Step> before, long[] findings) {
    int times = 1;
    String call = line;
    if (line.matches("[0-9]+x .*")) {
      times = Integer.parseInt(line.substring(0, line.indexOf('x')));
      call = line.substring(line.indexOf('x') + 2);
    }
    Step last = Step.of(call);
    for (int i = 1; i < times; i++) {
      before.add(last);
      count(last, findings);
    }
    if (!last.due.isEmpty()) {
      answers(sentence, before, last, findings);
    }
    before.add(last);
  }

  private static void answers(String sentence, List<Step> before, Step step, long[] findings) {
    String when = sentence + " - call " + (before.size() + 1) + ": " + step.line;
    FeltedWash x = replayed(before);
    long got = step.ask(x);
    count(step, findings);
    if (!step.due.equals("may")) {
      Due.is(when, got, number(step.due));
    }
    statusIs(when, x, findings);
    onlyChanges(when, before, step);
  }

  private static void count(Step step, long[] findings) {
    if (step.finding() >= 0) {
      findings[step.finding()]++;
    }
  }

  private static void statusIs(String when, FeltedWash x, long[] findings) {
    long all = 0;
    for (int which = 0; which < findings.length; which++) {
      Due.is(when + " - then status(" + which + ")", x.status(which), findings[which]);
      all += findings[which];
    }
    Due.is(when + " - then status(-1)", x.status(-1), all);
  }

  private static void onlyChanges(String when, List<Step> before, Step step) {
    List<Step> behind = new ArrayList<>(before);
    behind.add(step);
    Map<String, Long> was = Whole.of(() -> replayed(before));
    Map<String, Long> is = Whole.of(() -> replayed(behind));
    Pattern may = Pattern.compile(step.mayChange());
    Set<String> changed = new TreeSet<>(was.keySet());
    changed.addAll(is.keySet());
    changed.removeIf(name -> Objects.equals(was.get(name), is.get(name)) || may.matcher(name).matches());
    Due.that(when + " - changed what it may not: " + changed, changed.isEmpty());
  }

  private static FeltedWash replayed(List<Step> steps) {
    FeltedWash x = new FeltedWash();
    for (Step step : steps) {
      step.ask(x);
    }
    return x;
  }
}
