import java.math.BigInteger;
import java.util.ArrayList;
import java.util.List;
import java.util.function.IntPredicate;
import java.util.regex.Matcher;
import java.util.regex.Pattern;

/**
 * A second reading of the document, with the Java library and without thrift, for ModelTest. A refused act throws
 * Finding; answer(..) turns that into a number and counts it.
 */
final class Model {
  /** An act that answers a finding, thrown so that the rest of the act does not happen. */
  static final class Finding extends RuntimeException {
    private static final long serialVersionUID = 1L;
    final int number;

    Finding(int number) {
      this.number = number;
    }
  }

  /** Where a text can't go on. */
  static final class Fault extends RuntimeException {
    private static final long serialVersionUID = 1L;
    final int place;

    Fault(int place) {
      this.place = place;
    }
  }

  record One(int kind, int length, int broad, int thick, int wet, int drawn, int holes) {
    static One fresh(int kind) {
      return new One(kind, 100, 100, 10, 0, 0, 0);
    }

    One as(int other) {
      return new One(other, length, broad, thick, wet, drawn, holes);
    }

    int shrinks(int d, int t) {
      return shrinksAs(kind, d, t);
    }

    private static int shrinksAs(int kind, int d, int t) {
      return switch (kind) {
        case 1 -> Math.max(0, d - 40) / 2;
        case 2 -> d / 20;
        case 3 -> d >= 61 ? 50 : 0;
        case 4 -> (1 + t) * shrinksAs(1, d, t);
        case 5 -> shrinksAs(2, d, t) + (d < 60 ? 0 : 1);
        default -> 0;
      };
    }

    int felts(int s) {
      return switch (kind) {
        case 1 -> s / 3;
        case 4 -> s > 0 ? s / 3 + 1 : 0;
        case 5 -> 2;
        default -> 0;
      };
    }

    int bears() {
      return switch (kind) {
        case 0 -> 10;
        case 1 -> 10 + thick / 4;
        case 2 -> 5;
        case 3 -> 3;
        case 4 -> (10 + thick / 4) * 2;
        default -> 5 + holes;
      };
    }

    int keeps() {
      return new int[] {50, 50, 20, 100, 40, 20}[kind];
    }

    One washed(int d, int t) {
      int s = shrinks(d, t);
      return new One(kind, Math.max(10, length - length * s / 100), Math.max(10, broad - broad * s / 100),
          Math.min(99, thick + felts(s)), 3, 0, holes);
    }

    One washed(int n, int d, int t) {
      return n == 0 ? this : washed(d, t).washed(n - 1, d, t);
    }

    One drawnBy(int n) {
      One more = new One(kind, Math.min(200, length + n), Math.max(10, broad - n / 2), thick, wet, drawn + n, holes);
      return more.drawn > more.bears()
          ? new One(kind, more.length, more.broad, thick, wet, more.drawn, Math.min(9999, holes + 1)) : more;
    }

    One dayOn() {
      if (wet == 0) {
        return this;
      }
      if (wet > 1) {
        return new One(kind, length, broad, thick, wet - 1, drawn, holes);
      }
      return new One(kind, Math.max(10, length - drawn * (100 - keeps()) / 100), broad, thick, 0, 0, holes);
    }

    One daysOn(int n) {
      One one = this;
      for (int i = 0; i < n; i++) {
        one = one.dayOn();
      }
      return one;
    }

    boolean fits(int[] p) {
      return wet == 0 && holes == 0 && length >= p[0] && length <= p[0] + 10 && broad >= p[1] && broad <= p[1] + 15;
    }
  }

  /** What an image keeps. */
  static final class World {
    int day = 0;
    int degrees = 40;
    int towels = 0;
    final List<One> ones = new ArrayList<>();
    final List<int[]> people = new ArrayList<>();

    World twin() {
      World other = new World();
      other.day = day;
      other.degrees = degrees;
      other.towels = towels;
      other.ones.addAll(ones);
      other.people.addAll(people);
      return other;
    }

    One washed(One one, int n) {
      return one.washed(n, degrees, towels);
    }
  }

  private static final List<String> NAMES = List.of("garment", "wool", "cotton", "silk", "jumper", "sock");
  private static final int[] ABOVE = {-1, 0, 0, 0, 1, 2};

  private World w = new World();
  private World image = null;
  private String tape = "";
  private final long[][] sheets = new long[4][];
  private final int[] bits = new int[4];
  private final int[] found = new int[7];

  long answer(int call, int a, int b, int c, int d, int e, long v) {
    try {
      return act(call, a, b, c, d, e, v);
    } catch (Finding f) {
      found[-1000000001 - f.number]++;
      return f.number;
    }
  }

  private long act(int call, int a, int b, int c, int d, int e, long v) {
    return switch (call) {
      case 0 -> machine(a, b);
      case 1 -> now(a);
      case 2 -> garment(a);
      case 3 -> of(one(a), b);
      case 4 -> set(a, b, c);
      case 5 -> wash(a);
      case 6 -> draw(a, b);
      case 7 -> turn(a, b);
      case 8 -> as(a, b);
      case 9 -> person(a, b);
      case 10 -> one(w.people, a)[range(b, 0, 1)];
      case 11 -> bits(w.ones.size(), fitting(one(w.people, a)));
      case 12 -> days(a);
      case 13 -> on(a, b, c);
      case 14 -> again(a, b, c);
      case 15 -> washes(one(a), one(w.people, b));
      case 16 -> warmest(one(a), one(w.people, b));
      case 17 -> pull(one(a), one(w.people, b));
      case 18 -> kind(one(a), range(b, 1, 40));
      case 19 -> dressed(range(a, 0, 100));
      case 20 -> shortest(range(a, 0, 40));
      case 21 -> feed(a, range(b, 1, 4));
      case 22 -> wipe();
      case 23 -> basket();
      case 24 -> sheet(a, b, c);
      case 25 -> write(a, b, v);
      case 26 -> copy(a, b, c, d, e);
      case 27 -> lays(there(a));
      case 28 -> book(there(a), bits[a], b);
      case 29 -> read(there(a), b);
      case 30 -> keep();
      case 31 -> undo();
      case 32 -> tear();
      case 33 -> count(a);
      default -> status(a);
    };
  }

  private static Finding beyond() {
    return new Finding(Due.BEYOND);
  }

  private static int range(int v, int least, int most) {
    if (v < least || v > most) {
      throw beyond();
    }
    return v;
  }

  private static <T> T one(List<T> of, int i) {
    return of.get(range(i, 0, of.size() - 1));
  }

  private One one(int i) {
    return one(w.ones, i);
  }

  private static int bits(int n, IntPredicate in) {
    int set = 0;
    for (int i = 0; i < n; i++) {
      set += in.test(i) ? 1 << i : 0;
    }
    return set;
  }

  private IntPredicate fitting(int[] p) {
    return i -> w.ones.get(i).fits(p);
  }

  private int machine(int what, int v) {
    range(what, 0, 1);
    int was = what == 0 ? w.degrees : w.towels;
    if (what == 0) {
      w.degrees = range(v, 20, 95);
    } else {
      w.towels = range(v, 0, 1);
    }
    return was;
  }

  private int now(int what) {
    int n = w.ones.size();
    return switch (range(what, 0, 5)) {
      case 0 -> w.day;
      case 1 -> w.degrees;
      case 2 -> w.towels;
      case 3 -> bits(n, i -> w.ones.get(i).wet != 0);
      case 4 -> bits(n, i -> w.ones.get(i).holes != 0);
      default -> bits(n, i -> w.people.stream().anyMatch(p -> w.ones.get(i).fits(p)));
    };
  }

  private int garment(int kind) {
    range(kind, 0, 5);
    if (w.ones.size() == 8) {
      throw new Finding(Due.FULL);
    }
    w.ones.add(One.fresh(kind));
    return w.ones.size() - 1;
  }

  private int of(One g, int what) {
    int s = g.shrinks(w.degrees, w.towels);
    int[] all = {g.kind, g.length, g.broad, g.thick, g.wet, g.drawn, g.holes, s, g.felts(s), g.bears(), g.keeps()};
    return all[range(what, 0, 10)];
  }

  private int set(int garment, int what, int v) {
    One g = one(garment);
    switch (what) {
      case 1 -> w.ones.set(garment, new One(g.kind, range(v, 10, 200), g.broad, g.thick, g.wet, g.drawn, g.holes));
      case 2 -> w.ones.set(garment, new One(g.kind, g.length, range(v, 10, 200), g.thick, g.wet, g.drawn, g.holes));
      case 3 -> w.ones.set(garment, new One(g.kind, g.length, g.broad, range(v, 1, 99), g.wet, g.drawn, g.holes));
      case 6 -> w.ones.set(garment, new One(g.kind, g.length, g.broad, g.thick, g.wet, g.drawn, range(v, 0, 9999)));
      default -> throw beyond();
    }
    return of(g, what);
  }

  private int wash(int garment) {
    One washed = w.washed(one(garment), 1);
    w.ones.set(garment, washed);
    return washed.length;
  }

  private int draw(int garment, int n) {
    One g = one(garment);
    range(n, 1, 50);
    if (g.wet == 0) {
      throw new Finding(Due.STATE);
    }
    w.ones.set(garment, g.drawnBy(n));
    return one(garment).length;
  }

  private int turn(int garment, int kind) {
    One g = one(garment);
    w.ones.set(garment, g.as(range(kind, 0, 5)));
    return g.kind;
  }

  private int as(int garment, int kind) {
    One g = one(garment);
    range(kind, 0, 5);
    int k = g.kind;
    while (k >= 0 && k != kind) {
      k = ABOVE[k];
    }
    if (k < 0) {
      throw new Finding(Due.KIND);
    }
    return g.thick;
  }

  private int person(int length, int breadth) {
    int[] p = {range(length, 10, 200), range(breadth, 10, 200)};
    if (w.people.size() == 6) {
      throw new Finding(Due.FULL);
    }
    w.people.add(p);
    return w.people.size() - 1;
  }

  private int days(int n) {
    range(n, 1, 100);
    if (w.day + n > 99999) {
      throw new Finding(Due.STATE);
    }
    for (int i = 0; i < n; i++) {
      w.ones.replaceAll(One::dayOn);
      w.day++;
    }
    return now(3);
  }

  private int on(int garment, int n, int what) {
    One g = one(garment).daysOn(range(n, 0, 100));
    return new int[] {g.length, g.broad, g.wet}[range(what, 0, 2)];
  }

  private int again(int garment, int n, int what) {
    One g = w.washed(one(garment), range(n, 0, 40));
    return new int[] {g.length, g.broad, g.thick}[range(what, 0, 2)];
  }

  private int washes(One g, int[] p) {
    return first(1, 40, n -> w.washed(g, n).daysOn(3).fits(p));
  }

  private int warmest(One g, int[] p) {
    return 95 - first(0, 75, n -> g.washed(95 - n, w.towels).daysOn(3).fits(p));
  }

  private int pull(One g, int[] p) {
    return first(0, 50, n -> (n == 0 ? w.washed(g, 1) : w.washed(g, 1).drawnBy(n)).daysOn(3).fits(p));
  }

  private static int first(int least, int most, IntPredicate is) {
    for (int n = least; n <= most; n++) {
      if (is.test(n)) {
        return n;
      }
    }
    throw new Finding(Due.NONE);
  }

  private int kind(One g, int n) {
    int best = 0;
    for (int k = 5; k >= 0; k--) {
      best = w.washed(g.as(k), n).length >= w.washed(g.as(best), n).length ? k : best;
    }
    return best;
  }

  private int dressed(int n) {
    int best = -1;
    long most = -1;
    for (int[] p : w.people) {
      long has = w.ones.stream().filter(g -> g.daysOn(n).fits(p)).count();
      if (has > most) {
        most = has;
        best = w.people.indexOf(p);
      }
    }
    if (best < 0) {
      throw new Finding(Due.NONE);
    }
    return best;
  }

  private int shortest(int n) {
    List<Integer> lengths = w.ones.stream().map(g -> w.washed(g, n).length).toList();
    int least = lengths.stream().mapToInt(i -> i).min().orElseThrow(() -> new Finding(Due.NONE));
    return lengths.indexOf(least);
  }

  private int feed(int bytes, int n) {
    if (tape.length() + n > 120) {
      throw new Finding(Due.FULL);
    }
    StringBuilder more = new StringBuilder();
    for (int i = 0; i < n; i++) {
      more.insert(0, (char) (bytes >>> 8 * i & 255));
    }
    tape += more;
    return tape.length();
  }

  private int wipe() {
    int had = tape.length();
    tape = "";
    return had;
  }

  private int basket() {
    World then = w.twin();
    Text text = new Text(tape);
    tape = "";
    try {
      int items = text.items(then);
      w = then;
      return items;
    } catch (Fault fault) {
      return -1 - fault.place;
    }
  }

  /** The tokens of a text, cut beforehand, and where the reading stands. */
  private static final class Text {
    private final List<String> tokens = new ArrayList<>();
    private final List<Integer> places = new ArrayList<>();
    private int at = 0;

    Text(String text) {
      Matcher m = Pattern.compile("[a-z]+|[0-9]+|[^ ]", Pattern.DOTALL).matcher(text);
      while (m.find()) {
        tokens.add(m.group());
        places.add(m.start());
      }
      tokens.add("");
      places.add(text.length());
    }

    private String token() {
      return tokens.get(at);
    }

    private Fault fault() {
      return new Fault(places.get(at));
    }

    private boolean take(String word) {
      boolean is = token().equals(word);
      at += is ? 1 : 0;
      return is;
    }

    private int number(int least, int most) {
      if (!token().matches("[0-9]+")) {
        throw fault();
      }
      BigInteger v = new BigInteger(token());
      if (v.compareTo(BigInteger.valueOf(least)) < 0 || v.compareTo(BigInteger.valueOf(most)) > 0) {
        throw fault();
      }
      at++;
      return v.intValue();
    }

    int items(World to) {
      int n = 0;
      do {
        item(to);
        n++;
      } while (take(";"));
      if (!token().isEmpty()) {
        throw fault();
      }
      return n;
    }

    private void item(World to) {
      int kind = NAMES.indexOf(token());
      if (kind >= 0 && to.ones.size() < 8) {
        at++;
        int length = 100;
        int broad = 100;
        if (take("size")) {
          length = number(10, 200);
          broad = number(10, 200);
        }
        to.ones.add(new One(kind, length, broad, take("thick") ? number(1, 99) : 10, 0, 0, 0));
      } else if (to.people.size() < 6 && take("person")) {
        to.people.add(new int[] {number(10, 200), number(10, 200)});
      } else if (take("degrees")) {
        to.degrees = number(20, 95);
      } else if (take("towels")) {
        to.towels = 1;
      } else if (take("none")) {
        to.towels = 0;
      } else if (take("wash")) {
        int garment = number(0, to.ones.size() - 1);
        to.ones.set(garment, to.washed(to.ones.get(garment), 1));
      } else {
        throw fault();
      }
    }
  }

  private int sheet(int s, int of, int n) {
    range(s, 0, 3);
    if (!List.of(0, 8, 16, 64).contains(of)) {
      throw beyond();
    }
    if (n < 0) {
      throw new Finding(Due.SIZE);
    }
    range(n, 0, 40);
    bits[s] = of;
    sheets[s] = of == 0 ? null : new long[n];
    return of == 0 ? 0 : n;
  }

  private long[] there(int s) {
    long[] sheet = sheets[range(s, 0, 3)];
    if (sheet == null) {
      throw new Finding(Due.MISSING);
    }
    return sheet;
  }

  private static long low(long v, int bits) {
    return v << 64 - bits >> 64 - bits;
  }

  private long write(int s, int i, long v) {
    long[] sheet = there(s);
    long was = sheet[range(i, 0, sheet.length - 1)];
    sheet[i] = low(v, bits[s]);
    return was;
  }

  private int copy(int s, int from, int t, int to, int n) {
    range(s, 0, 3);
    range(t, 0, 3);
    long[] source = there(s).clone();
    long[] target = there(t);
    if (bits[s] != bits[t]) {
      throw new Finding(Due.KIND);
    }
    if (from < 0 || to < 0 || n < 0 || (long) from + n > source.length || (long) to + n > target.length) {
      throw beyond();
    }
    for (int i = 0; i < n; i++) {
      target[to + i] = source[from + i];
    }
    return n;
  }

  private int lays(long[] sheet) {
    int came = 0;
    for (int i = 0; i < Math.min(sheet.length, w.ones.size()); i++) {
      if (sheet[i] >= 10 && sheet[i] <= 200) {
        set(i, 1, (int) sheet[i]);
        came++;
      }
    }
    return came;
  }

  private int book(long[] sheet, int of, int garment) {
    One g = one(garment);
    for (int i = 0; i < sheet.length; i++) {
      sheet[i] = low(w.washed(g, i).length, of);
    }
    return sheet.length;
  }

  private int read(long[] sheet, int garment) {
    One g = one(garment);
    int pairs = 0;
    for (int d = 20; d <= 95; d++) {
      for (int k = 0; k < 6; k++) {
        int i = 0;
        while (i < sheet.length && sheet[i] == g.as(k).washed(i, d, w.towels).length) {
          i++;
        }
        pairs += i == sheet.length ? 1 : 0;
      }
    }
    return pairs;
  }

  private int keep() {
    image = w.twin();
    return 1;
  }

  private int undo() {
    if (image == null) {
      throw new Finding(Due.NONE);
    }
    w = image.twin();
    return w.ones.size();
  }

  private int tear() {
    int was = image == null ? 0 : 1;
    image = null;
    return was;
  }

  private int count(int what) {
    return switch (range(what, 0, 3)) {
      case 0 -> w.ones.size();
      case 1 -> w.people.size();
      case 2 -> tape.length();
      default -> w.ones.stream().mapToInt(One::holes).sum();
    };
  }

  private int status(int which) {
    range(which, -1, 6);
    int all = 0;
    for (int f : found) {
      all += f;
    }
    return which < 0 ? all : found[which];
  }
}
