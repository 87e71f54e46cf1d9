import java.util.Arrays;
import java.util.List;

/** Each call with each choice of boundary values as its arguments, in three scenes, held against the Model. */
public final class ModelEdgesTest {
  private static final int[] VALUES = {
    Due.MIN, -1000, -41, -2, -1, 0, 1, 2, 3, 4, 5, 6, 7, 8, 9, 10, 11, 16, 19, 20, 39, 40, 41, 50, 51, 64, 95, 96, 99, 100, 101,
    120, 199, 200, 201, 9999, 10000, Due.MAX
  };
  /** For the call with five arguments, which would have too many choices else. */
  private static final int[] FEW = {Due.MIN, -1, 0, 1, 2, 3, 4, 39, 40, 41, Due.MAX};
  private static final long[] LONGS = {Long.MIN_VALUE, -32769, -129, -1, 0, 127, 128, 255, 256, 32768, 65536, Long.MAX_VALUE};
  private static final int MOST_CALLS = 200;

  private static final String NOTHING = "";
  private static final String SOME = """
      machine 0 60;garment 4;garment 5;garment 1;set 1 6 1;wash 0;draw 0 10;days 1;person 80 80;person 10 200;image;person 90 90
      sheet 0 8 3;sheet 1 8 40;sheet 2 64 2;write 0 2 99;write 2 1 55;feed 119 1
      """;
  private static final String FULL = """
      machine 0 95;machine 1 1;garment 0;garment 1;garment 2;garment 3;garment 4;garment 5;garment 5;garment 4;wash 4
      draw 4 20;wash 7
      person 10 10;person 200 200;person 90 90;person 95 95;person 40 40;person 60 60;set 6 6 9999;set 0 1 200
      set 1 2 10;set 2 3 99
      sheet 0 16 40;sheet 1 16 39;sheet 2 16 0;sheet 3 64 40;book 0 4;book 3 5;image
      """;

  private static int wrong = 0;
  private static int asked = 0;
  private static FeltedWash x;
  private static Model model;
  private static int calls;

  public static void main(String[] args) {
    for (String scene : new String[] {NOTHING, SOME, FULL}) {
      for (int call = 0; call < Calls.NAMES.length; call++) {
        calls = MOST_CALLS;
        choose(scene, call, new int[5], 0);
      }
    }
    System.out.println(wrong == 0 ? asked + " answers are the model's" : wrong + " answers are not the model's");
    if (wrong != 0) {
      System.exit(1);
    }
  }

  private static int arguments(String name) {
    return switch (name) {
      case "wipe", "basket", "image", "undo", "tear" -> 0;
      case "now", "garment", "wash", "fits", "days", "dressed", "shortest", "lays", "count", "status" -> 1;
      case "set", "on", "again", "sheet" -> 3;
      case "copy" -> 5;
      default -> 2;
    };
  }

  private static void choose(String scene, int call, int[] a, int chosen) {
    int due = arguments(Calls.NAMES[call]);
    if (chosen == due) {
      for (long v : Calls.NAMES[call].equals("write") ? LONGS : new long[] {0}) {
        ask(scene, call, a, v);
      }
      return;
    }
    for (int value : due == 5 ? FEW : VALUES) {
      a[chosen] = value;
      choose(scene, call, a, chosen + 1);
    }
  }

  private static void ask(String scene, int call, int[] a, long v) {
    if (calls >= MOST_CALLS) {
      begin(scene);
    }
    calls++;
    asked++;
    long want = model.answer(call, a[0], a[1], a[2], a[3], a[4], v);
    long got = Calls.ask(x, Calls.NAMES[call], a, v);
    if (got != want && wrong++ < 20) {
      System.out.println(Calls.NAMES[call] + Arrays.toString(a) + " with " + v + " answered " + got + ", the model " + want);
    }
  }

  private static void begin(String scene) {
    x = new FeltedWash();
    model = new Model();
    calls = 0;
    for (String line : scene.isEmpty() ? new String[0] : scene.trim().split("[;\n]")) {
      String[] words = line.trim().split(" ");
      int[] a = new int[5];
      for (int i = 1; i < words.length; i++) {
        a[i - 1] = Integer.parseInt(words[i]);
      }
      model.answer(List.of(Calls.NAMES).indexOf(words[0]), a[0], a[1], a[2], a[3], a[4], a[2]);
      Calls.ask(x, words[0], a, a[2]);
    }
  }
}
