/** What the tests share: answers that are due, the findings, and ways to bring an object into a state. */
final class Due {
  static final int BEYOND = -1000000001;
  static final int FULL = -1000000002;
  static final int KIND = -1000000003;
  static final int NONE = -1000000004;
  static final int STATE = -1000000005;
  static final int MISSING = -1000000006;
  static final int SIZE = -1000000007;

  static final int MIN = Integer.MIN_VALUE;
  static final int MAX = Integer.MAX_VALUE;

  private static int wrong = 0;
  private static int asked = 0;

  private Due() {}

  static void is(String call, long got, long want) {
    asked++;
    if (got != want) {
      wrong++;
      System.out.println(call + " answered " + got + ", due is " + want);
    }
  }

  static void that(String what, boolean holds) {
    is(what, holds ? 1 : 0, 1);
  }

  /** Ends the test: with exit code 1 if an answer was not the one that is due. */
  static void end() {
    if (wrong != 0) {
      System.out.println(wrong + " of " + asked + " answers are not as due");
      System.exit(1);
    }
    System.out.println("all " + asked + " answers are as due");
  }

  /** An object with one garment of a kind, so long, so broad and so thick. */
  static FeltedWash with(int kind, int length, int breadth, int thick) {
    FeltedWash x = new FeltedWash();
    add(x, kind, length, breadth, thick);
    return x;
  }

  static int add(FeltedWash x, int kind, int length, int breadth, int thick) {
    int number = x.garment(kind);
    x.set(number, 1, length);
    x.set(number, 2, breadth);
    x.set(number, 3, thick);
    return number;
  }

  static void heat(FeltedWash x, int degrees, int towels) {
    x.machine(0, degrees);
    x.machine(1, towels);
  }

  static void type(FeltedWash x, String text) {
    for (int i = 0; i < text.length(); i++) {
      x.feed(text.charAt(i), 1);
    }
  }

  static int basket(FeltedWash x, String text) {
    type(x, text);
    return x.basket();
  }

  /** LONG, BROAD, THICK, WET, DRAWN, HOLES and the kind of one, in one text. */
  static String told(FeltedWash x, int garment) {
    StringBuilder text = new StringBuilder();
    for (int what = 0; what <= 6; what++) {
      text.append(x.of(garment, what)).append(' ');
    }
    return text.toString().trim();
  }

  static void toldAs(String when, FeltedWash x, int garment, String want) {
    String got = told(x, garment);
    asked++;
    if (!got.equals(want)) {
      wrong++;
      System.out.println(when + ": garment " + garment + " is " + got + ", due is " + want);
    }
  }

  /** All that section 1 tells, and how many bytes THE TAPE has. */
  static String all(FeltedWash x) {
    StringBuilder text = new StringBuilder();
    text.append(x.now(0)).append(' ').append(x.now(1)).append(' ').append(x.now(2));
    for (int i = 0; i < x.count(0); i++) {
      text.append(" / ").append(told(x, i));
    }
    for (int i = 0; i < x.count(1); i++) {
      text.append(" | ").append(x.size(i, 0)).append(' ').append(x.size(i, 1));
    }
    return text.append(" # ").append(x.count(2)).toString();
  }

  /** The act answers a finding, counts it alone, and changes nothing else. */
  static void refused(String call, FeltedWash x, String before, int statusBefore, long got, int want) {
    is(call, got, want);
    is(call + " counted", x.status(-1), statusBefore + 1);
    asked++;
    String after = all(x);
    if (!after.equals(before)) {
      wrong++;
      System.out.println(call + " changed " + before + " to " + after);
    }
  }
}
