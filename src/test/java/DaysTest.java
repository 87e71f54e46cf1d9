/** Promises 14 to 17: days, on, again, washes. */
public final class DaysTest {
  public static void main(String[] args) {
    daysTellTheWet();
    daysBringBackByKind();
    daysHoldToTen();
    daysBeyond();
    daysState();
    onLooksAhead();
    onBeyond();
    againLooksAhead();
    againBeyond();
    washesFindsTheFirst();
    washesWantsTheFirstOnly();
    washesFindings();
    Due.end();
  }

  private static void daysTellTheWet() {
    FeltedWash x = new FeltedWash();
    for (int i = 0; i < 8; i++) {
      x.garment(i % 6);
    }
    x.wash(0);
    Due.is("days(1)", x.days(1), 1);
    x.wash(7);
    x.wash(3);
    Due.is("days(1) then", x.days(1), 0b10001001);
    Due.is("0 dries", x.days(1), 0b10001000);
    Due.is("all dry", x.days(1), 0);
    Due.is("days(100)", x.days(100), 0);
    Due.is("DAY", x.now(0), 104);
    x.wash(2);
    Due.is("3 DAYS at once", x.days(3), 0);
    Due.is("WET stays 0", x.of(2, 4), 0);
  }

  private static void daysBringBackByKind() {
    int[] back = {8, 8, 12, 0, 9, 12};
    for (int k = 0; k < 6; k++) {
      FeltedWash x = Due.with(k, 100, 100, 10);
      Due.heat(x, 20, 0);
      x.wash(0);
      int was = x.of(0, 1);
      x.draw(0, 16);
      x.days(2);
      Due.is("kind " + k + " while it is wet", x.of(0, 1), was + 16);
      Due.is("kind " + k + ": DRAWN while it is wet", x.of(0, 5), 16);
      x.days(1);
      Due.is("kind " + k + " dried", x.of(0, 1), was + 16 - back[k]);
      Due.is("kind " + k + ": DRAWN is 0", x.of(0, 5), 0);
      Due.is("kind " + k + ": BROAD stays", x.of(0, 2), was - 8);
      x.days(50);
      Due.is("kind " + k + " later", x.of(0, 1), was + 16 - back[k]);
    }
    FeltedWash odd = Due.with(1, 100, 100, 10);
    odd.wash(0);
    odd.draw(0, 5);
    odd.days(3);
    Due.is("half of 5 is cut to 2", odd.of(0, 1), 103);
  }

  private static void daysHoldToTen() {
    FeltedWash x = Due.with(2, 30, 30, 10);
    x.wash(0);
    x.draw(0, 50);
    x.set(0, 1, 20);
    x.days(3);
    Due.is("20 less 40: 10 at least", x.of(0, 1), 10);
  }

  private static void daysBeyond() {
    FeltedWash x = new FeltedWash();
    x.garment(1);
    x.wash(0);
    int[] wrong = {0, -1, 101, Due.MIN, Due.MAX};
    for (int w : wrong) {
      Due.refused("days(" + w + ")", x, Due.all(x), x.status(-1), x.days(w), Due.BEYOND);
    }
  }

  /** Takes more calls than an object is promised for, as no other way leads to the last DAY. */
  private static void daysState() {
    FeltedWash x = new FeltedWash();
    x.garment(0);
    for (int i = 0; i < 999; i++) {
      x.days(100);
    }
    Due.is("DAY", x.now(0), 99900);
    x.wash(0);
    String before = Due.all(x);
    Due.is("days(100) to 100000", x.days(100), Due.STATE);
    Due.is("BEYOND is asked first", x.days(101), Due.BEYOND);
    Due.is("STATE is counted", x.status(4), 1);
    Due.that("STATE changes nothing", before.equals(Due.all(x)));
    Due.is("on() looks further", x.on(0, 100, 2), 0);
    Due.is("days(99) to 99999", x.days(99), 0);
    Due.is("the last DAY", x.now(0), 99999);
    Due.is("no DAY more", x.days(1), Due.STATE);
  }

  private static void onLooksAhead() {
    FeltedWash x = Due.with(4, 100, 90, 10);
    Due.heat(x, 60, 0);
    x.wash(0);
    x.draw(0, 10);
    String before = Due.all(x);
    int[][] rows = {{0, 100, 76, 3}, {1, 100, 76, 2}, {2, 100, 76, 1}, {3, 94, 76, 0}, {4, 94, 76, 0}, {100, 94, 76, 0}};
    for (int[] row : rows) {
      Due.is("on(0, " + row[0] + ", 0)", x.on(0, row[0], 0), row[1]);
      Due.is("on(0, " + row[0] + ", 1)", x.on(0, row[0], 1), row[2]);
      Due.is("on(0, " + row[0] + ", 2)", x.on(0, row[0], 2), row[3]);
    }
    Due.that("on changes nothing", before.equals(Due.all(x)));
  }

  private static void onBeyond() {
    FeltedWash x = new FeltedWash();
    x.garment(1);
    int[][] wrong = {
      {-1, 0, 0}, {1, 0, 0}, {Due.MIN, 0, 0}, {Due.MAX, 0, 0}, {0, -1, 0}, {0, 101, 0}, {0, Due.MIN, 0}, {0, Due.MAX, 0},
      {0, 0, -1}, {0, 0, 3}, {0, 100, Due.MIN}, {0, 100, Due.MAX}
    };
    for (int[] w : wrong) {
      String call = "on(" + w[0] + ", " + w[1] + ", " + w[2] + ")";
      Due.refused(call, x, Due.all(x), x.status(-1), x.on(w[0], w[1], w[2]), Due.BEYOND);
    }
  }

  private static void againLooksAhead() {
    FeltedWash x = Due.with(4, 150, 55, 30);
    Due.heat(x, 60, 1);
    String before = Due.all(x);
    int[][] rows = {{0, 150, 55, 30}, {1, 120, 44, 37}, {2, 96, 36, 44}, {3, 77, 29, 51}, {40, 10, 10, 99}};
    for (int[] row : rows) {
      for (int what = 0; what <= 2; what++) {
        Due.is("again(0, " + row[0] + ", " + what + ")", x.again(0, row[0], what), row[1 + what]);
      }
    }
    Due.that("again changes nothing", before.equals(Due.all(x)));
    x.machine(1, 0);
    Due.is("the towels that are", x.again(0, 1, 0), 135);
    x.machine(0, 40);
    Due.is("the degrees that are", x.again(0, 40, 0), 150);
    FeltedWash plain = Due.with(0, 150, 55, 30);
    Due.is("a garment, 40 times", plain.again(0, 40, 0), 150);
  }

  private static void againBeyond() {
    FeltedWash x = new FeltedWash();
    x.garment(1);
    int[][] wrong = {
      {-1, 0, 0}, {1, 0, 0}, {Due.MIN, 0, 0}, {Due.MAX, 0, 0}, {0, -1, 0}, {0, 41, 0}, {0, Due.MIN, 0}, {0, Due.MAX, 0},
      {0, 0, -1}, {0, 0, 3}, {0, 40, Due.MIN}, {0, 40, Due.MAX}
    };
    for (int[] w : wrong) {
      String call = "again(" + w[0] + ", " + w[1] + ", " + w[2] + ")";
      Due.refused(call, x, Due.all(x), x.status(-1), x.again(w[0], w[1], w[2]), Due.BEYOND);
    }
  }

  /** A jumper at 60 with towels goes 100, 80, 64, 52, 42, 34 .. */
  private static void washesFindsTheFirst() {
    FeltedWash x = Due.with(4, 100, 100, 10);
    Due.heat(x, 60, 1);
    x.person(75, 75);
    x.person(64, 64);
    x.person(32, 32);
    x.person(10, 10);
    String before = Due.all(x);
    Due.is("80 fits 75", x.washes(0, 0), 1);
    Due.is("64 fits 64", x.washes(0, 1), 2);
    Due.is("42 fits 32", x.washes(0, 2), 4);
    Due.is("19 fits 10", x.washes(0, 3), 8);
    Due.that("washes changes nothing", before.equals(Due.all(x)));
    x.wash(0);
    x.draw(0, 20);
    Due.is("100 drawn, washed, 80", x.washes(0, 0), Due.NONE);
    x.set(0, 2, 100);
    Due.is("100 by 100 drawn: DRAWN is 0 once it is washed", x.washes(0, 0), 1);
  }

  private static void washesWantsTheFirstOnly() {
    FeltedWash x = Due.with(2, 100, 100, 10);
    Due.heat(x, 20, 0);
    x.person(100, 100);
    Due.is("99 is too short: it is washed once at least", x.washes(0, 0), Due.NONE);
    x.person(90, 90);
    Due.is("99 fits 90", x.washes(0, 1), 1);
    FeltedWash slow = Due.with(2, 140, 140, 10);
    Due.heat(slow, 20, 0);
    slow.person(90, 90);
    Due.is("140 is 100 after 40", slow.washes(0, 0), 40);
    slow.set(0, 1, 141);
    Due.is("141 is 101 after 40", slow.washes(0, 0), Due.NONE);
  }

  private static void washesFindings() {
    FeltedWash x = new FeltedWash();
    x.garment(1);
    x.person(100, 100);
    int[][] wrong = {{-1, 0}, {1, 0}, {Due.MIN, 0}, {Due.MAX, 0}, {0, -1}, {0, 1}, {0, Due.MIN}, {0, Due.MAX}};
    for (int[] w : wrong) {
      Due.refused("washes(" + w[0] + ", " + w[1] + ")", x, Due.all(x), x.status(-1), x.washes(w[0], w[1]), Due.BEYOND);
    }
    int none = x.status(3);
    x.set(0, 6, 1);
    Due.refused("washes with a hole", x, Due.all(x), x.status(-1), x.washes(0, 0), Due.NONE);
    Due.is("NONE is counted", x.status(3), none + 1);
  }
}
