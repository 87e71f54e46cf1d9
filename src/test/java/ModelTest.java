import java.util.Random;

/** Runs of 512 calls by chance (with seeds, so that they are always the same), held against the Model. */
public final class ModelTest {
  private static final int RUNS = 3000;
  private static final String[] WORDS = {
    "garment", "wool", "cotton", "silk", "jumper", "sock", "person", "degrees", "towels", "none", "wash", "size", "thick", ";",
    " ", "10", "200", "40", "90", "0", "1", "x", "1000", ";;", "A"
  };

  private static int wrong = 0;

  public static void main(String[] args) {
    int runs = args.length > 0 ? Integer.parseInt(args[0]) : RUNS;
    for (int seed = 0; seed < runs && wrong < 20; seed++) {
      run(seed);
    }
    System.out.println(wrong == 0 ? runs + " runs answer as the model does" : wrong + " answers are not the model's");
    if (wrong != 0) {
      System.exit(1);
    }
  }

  private static void run(int seed) {
    Random chance = new Random(seed);
    FeltedWash x = new FeltedWash();
    Model model = new Model();
    String pending = "";
    for (int n = 0; n < 512; n++) {
      int call = chance.nextInt(Calls.NAMES.length);
      if (n < 4) {
        call = n % 2 == 0 ? 2 : 9;
      }
      int[] a = arguments(call, chance);
      if (!pending.isEmpty()) {
        call = 21;
        int bytes = Math.min(pending.length(), 1 + chance.nextInt(4));
        a = five(packed(pending.substring(0, bytes)), bytes);
        pending = chance.nextInt(60) == 0 ? "" : pending.substring(bytes);
      } else if (call == 23 && chance.nextInt(3) > 0) {
        pending = chance.nextBoolean() ? goodText(chance) : anyText(chance);
        call = 22;
      }
      long v = number(chance);
      long want = model.answer(call, a[0], a[1], a[2], a[3], a[4], v);
      long got = Calls.ask(x, Calls.NAMES[call], a, v);
      if (got != want) {
        wrong++;
        System.out.println("seed " + seed + " call " + n + ": " + Calls.NAMES[call] + java.util.Arrays.toString(a) + " with " + v
            + " answered " + got + ", the model " + want);
        return;
      }
      if (call == 21 && pending.isEmpty()) {
        want = model.answer(23, 0, 0, 0, 0, 0, 0);
        got = x.basket();
        if (got != want) {
          wrong++;
          System.out.println("seed " + seed + " call " + n + ": basket answered " + got + ", the model " + want);
          return;
        }
      }
    }
  }

  private static int packed(String signs) {
    int bytes = 0;
    for (int i = 0; i < signs.length(); i++) {
      bytes = bytes << 8 | signs.charAt(i);
    }
    return bytes;
  }

  private static String goodText(Random chance) {
    StringBuilder text = new StringBuilder();
    int items = 1 + chance.nextInt(4);
    for (int i = 0; i < items; i++) {
      text.append(i == 0 ? "" : ";").append(chance.nextInt(3) == 0 ? " " : "");
      switch (chance.nextInt(6)) {
        case 0 -> text.append("person ").append(10 + chance.nextInt(191)).append(' ').append(10 + chance.nextInt(191));
        case 1 -> text.append("degrees ").append(20 + chance.nextInt(76));
        case 2 -> text.append(chance.nextBoolean() ? "towels" : "none");
        case 3 -> text.append("wash ").append(chance.nextInt(4));
        default -> {
          text.append(WORDS[chance.nextInt(6)]);
          if (chance.nextBoolean()) {
            text.append(" size ").append(8 + chance.nextInt(195)).append(' ').append(10 + chance.nextInt(191));
          }
          if (chance.nextBoolean()) {
            text.append(" thick ").append(1 + chance.nextInt(99));
          }
        }
      }
    }
    return text.toString();
  }

  private static String anyText(Random chance) {
    StringBuilder text = new StringBuilder(" ");
    int words = chance.nextInt(10);
    for (int i = 0; i < words; i++) {
      text.append(WORDS[chance.nextInt(WORDS.length)]).append(chance.nextInt(4) == 0 ? "" : " ");
    }
    if (chance.nextInt(8) == 0) {
      text.setCharAt(chance.nextInt(text.length()), (char) chance.nextInt(256));
    }
    return text.toString();
  }

  /** Mostly what may be, now and then just beyond it, seldom far beyond. */
  private static int near(Random chance, int least, int most) {
    int luck = chance.nextInt(60);
    if (luck == 0) {
      return chance.nextInt();
    }
    if (luck == 1) {
      return chance.nextBoolean() ? Integer.MIN_VALUE : Integer.MAX_VALUE;
    }
    if (luck < 5) {
      return least - 1;
    }
    if (luck < 8) {
      return most + 1;
    }
    if (luck < 12) {
      return luck % 2 == 0 ? least : most;
    }
    return least + chance.nextInt(most - least + 1);
  }

  private static long number(Random chance) {
    return switch (chance.nextInt(4)) {
      case 0 -> chance.nextLong();
      case 1 -> chance.nextInt(70000) - 300;
      default -> chance.nextInt(230);
    };
  }

  private static int garment(Random chance) {
    return near(chance, 0, chance.nextInt(4) == 0 ? 7 : 2);
  }

  private static int someone(Random chance) {
    return near(chance, 0, chance.nextInt(4) == 0 ? 5 : 1);
  }

  private static int[] arguments(int call, Random r) {
    return switch (Calls.NAMES[call]) {
      case "machine" -> machineArguments(r);
      case "now" -> five(near(r, 0, 5));
      case "garment" -> five(near(r, 0, 5));
      case "of" -> five(garment(r), near(r, 0, 10));
      case "set" -> setArguments(r);
      case "wash" -> five(garment(r));
      case "draw" -> five(garment(r), near(r, 1, r.nextInt(4) == 0 ? 50 : 8));
      case "turn", "as" -> five(garment(r), near(r, 0, 5));
      case "person" -> personArguments(r);
      case "size" -> five(someone(r), near(r, 0, 1));
      case "fits" -> five(someone(r));
      case "days" -> five(near(r, 1, r.nextInt(4) == 0 ? 100 : 3));
      case "on" -> five(garment(r), near(r, 0, r.nextInt(4) == 0 ? 100 : 4), near(r, 0, 2));
      case "again" -> five(garment(r), near(r, 0, r.nextInt(2) == 0 ? 40 : 4), near(r, 0, 2));
      case "washes", "warmest", "pull" -> five(garment(r), someone(r));
      case "kind" -> five(garment(r), near(r, 1, 40));
      case "dressed" -> five(near(r, 0, r.nextInt(3) == 0 ? 100 : 4));
      case "shortest" -> five(near(r, 0, 40));
      case "feed" -> five(r.nextInt(), near(r, 1, 4));
      case "sheet" -> five(near(r, 0, 3), new int[] {0, 8, 16, 64, 16, 8, 64, 32}[r.nextInt(8)], near(r, 0, r.nextBoolean() ? 40 : 4));
      case "write" -> five(near(r, 0, 3), near(r, 0, 5));
      case "copy" -> five(near(r, 0, 3), near(r, 0, 4), near(r, 0, 3), near(r, 0, 4), near(r, 0, 4));
      case "lays" -> five(near(r, 0, 3));
      case "book", "read" -> five(near(r, 0, 3), garment(r));
      case "count" -> five(near(r, 0, 3));
      case "status" -> five(near(r, -1, 6));
      default -> five();
    };
  }

  private static int[] machineArguments(Random r) {
    int what = near(r, 0, 1);
    return five(what, what == 1 ? near(r, 0, 1) : near(r, 20, 95));
  }

  /** People about as long as garments are, as else hardly anything fits. */
  private static int[] personArguments(Random r) {
    return r.nextInt(3) == 0 ? five(near(r, 10, 200), near(r, 10, 200)) : five(near(r, 70, 100), near(r, 70, 100));
  }

  private static int[] setArguments(Random r) {
    int what = new int[] {1, 2, 3, 6, 1, 2, 6, 6, near(r, 0, 10)}[r.nextInt(9)];
    int v = r.nextInt(3) == 0 ? near(r, 10, 200) : near(r, 85, 115);
    if (what == 3) {
      v = near(r, 1, 99);
    }
    if (what == 6) {
      v = r.nextInt(5) > 0 ? 0 : near(r, 0, 9999);
    }
    return five(garment(r), what, v);
  }

  private static int[] five(int... some) {
    return java.util.Arrays.copyOf(some, 5);
  }
}
