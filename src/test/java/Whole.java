import java.util.Map;
import java.util.TreeMap;
import java.util.function.Supplier;

/**
 * All that can be asked of an object, by names: what section 1 tells, THE TAPE, the sheets, and what is kept. Some of it
 * can only be asked by changing the object, so each part is asked of an object of its own.
 */
final class Whole {
  private static final int[] BITS = {8, 16, 64};

  private Whole() {}

  static Map<String, Long> of(Supplier<FeltedWash> made) {
    Map<String, Long> all = new TreeMap<>();
    sectionOne("", made.get(), all);
    tape(made.get(), all);
    for (int s = 0; s <= 3; s++) {
      sheet(s, made.get(), all);
    }
    image(made.get(), all);
    return all;
  }

  private static void sectionOne(String when, FeltedWash x, Map<String, Long> all) {
    all.put(when + "DAY", (long) x.now(0));
    all.put(when + "DEGREES", (long) x.now(1));
    all.put(when + "TOWELS", (long) x.now(2));
    int garments = x.count(0);
    int people = x.count(1);
    all.put(when + "GARMENTS", (long) garments);
    all.put(when + "PEOPLE", (long) people);
    for (int i = 0; i < garments; i++) {
      for (int what = 0; what <= 6; what++) {
        all.put(when + "garment " + i + " " + what, (long) x.of(i, what));
      }
    }
    for (int i = 0; i < people; i++) {
      all.put(when + "person " + i + " 0", (long) x.size(i, 0));
      all.put(when + "person " + i + " 1", (long) x.size(i, 1));
    }
  }

  /** The bytes themselves can't be asked, only what comes of them. */
  private static void tape(FeltedWash x, Map<String, Long> all) {
    all.put("tape", (long) x.count(2));
    all.put("told", (long) x.basket());
    sectionOne("told ", x, all);
  }

  private static void sheet(int s, FeltedWash x, Map<String, Long> all) {
    int other = (s + 1) % 4;
    String name = "sheet " + s + " ";
    all.put(name + "is MISSING", x.copy(s, 0, s, 0, 0) == Due.MISSING ? 1L : 0L);
    for (int bits : BITS) {
      x.sheet(other, bits, 0);
      all.put(name + "has bits " + bits, x.copy(s, 0, other, 0, 0) == 0 ? 1L : 0L);
    }
    for (int i = 0; i <= 40; i++) {
      int findings = x.status(-1);
      long v = x.write(s, i, 0);
      if (x.status(-1) != findings) {
        break;
      }
      all.put(name + "number " + i, v);
    }
  }

  private static void image(FeltedWash x, Map<String, Long> all) {
    int findings = x.status(-1);
    all.put("image", (long) x.undo());
    if (x.status(-1) == findings) {
      sectionOne("image ", x, all);
    }
  }
}
