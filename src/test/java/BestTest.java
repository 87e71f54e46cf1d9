/** Promises 18 to 22: warmest, pull, kind, dressed, shortest. */
public final class BestTest {
  public static void main(String[] args) {
    warmestByKind();
    warmestTowelsAsTheyAre();
    warmestFindings();
    pullIsTheLeast();
    pullTearsNoHole();
    pullToFifty();
    pullFindings();
    kindIsLongest();
    kindBeyond();
    dressedAhead();
    dressedFindings();
    shortestWashedAgain();
    shortestFindings();
    Due.end();
  }

  /** Rows: kind, LENGTH and BREADTH of the person, what is due for a garment of 100 by 100. */
  private static void warmestByKind() {
    int[][] rows = {
      {0, 100, 95}, {0, 90, 95}, {1, 100, 41}, {1, 90, 61}, {1, 80, 81}, {1, 73, 95}, {2, 100, Due.NONE},
      {2, 99, 39}, {2, 98, 59}, {2, 96, 95}, {3, 100, 60}, {3, 50, 95}, {3, 70, Due.NONE}, {4, 90, 61},
      {5, 99, 39}, {5, 97, 59}, {5, 96, 79}, {5, 95, 95}
    };
    for (int[] row : rows) {
      FeltedWash x = Due.with(row[0], 100, 100, 10);
      x.person(row[1], row[1]);
      String before = Due.all(x);
      Due.is("warmest of kind " + row[0] + " for " + row[1], x.warmest(0, 0), row[2]);
      Due.that("warmest changes nothing", before.equals(Due.all(x)));
      x.machine(0, 77);
      Due.is("the machine's degrees don't matter", x.warmest(0, 0), row[2]);
    }
  }

  private static void warmestTowelsAsTheyAre() {
    FeltedWash x = Due.with(4, 100, 100, 10);
    x.person(90, 90);
    x.machine(1, 1);
    Due.is("a jumper with towels", x.warmest(0, 0), 51);
    x.wash(0);
    x.draw(0, 20);
    x.set(0, 1, 100);
    x.set(0, 2, 100);
    Due.is("wet and drawn", x.warmest(0, 0), 51);
  }

  private static void warmestFindings() {
    FeltedWash x = Due.with(1, 100, 100, 10);
    x.person(90, 90);
    int[][] wrong = {{-1, 0}, {1, 0}, {Due.MIN, 0}, {Due.MAX, 0}, {0, -1}, {0, 1}, {0, Due.MIN}, {0, Due.MAX}};
    for (int[] w : wrong) {
      Due.refused("warmest(" + w[0] + ", " + w[1] + ")", x, Due.all(x), x.status(-1), x.warmest(w[0], w[1]), Due.BEYOND);
    }
    x.set(0, 6, 1);
    Due.refused("warmest with a hole", x, Due.all(x), x.status(-1), x.warmest(0, 0), Due.NONE);
    Due.is("NONE is counted", x.status(3), 1);
  }

  /** Wool at 60: 90 by 90 and 13 thick once it is washed, so it bears 13. */
  private static void pullIsTheLeast() {
    int[][] rows = {{90, 90, 0}, {80, 80, 0}, {91, 90, 1}, {92, 89, 3}, {95, 80, 9}, {97, 80, 13}, {92, 90, Due.NONE}};
    for (int[] row : rows) {
      FeltedWash x = Due.with(1, 100, 100, 10);
      x.machine(0, 60);
      x.person(row[0], row[1]);
      String before = Due.all(x);
      Due.is("pull for " + row[0] + " by " + row[1], x.pull(0, 0), row[2]);
      Due.that("pull changes nothing", before.equals(Due.all(x)));
      x.wash(0);
      x.draw(0, 5);
      x.set(0, 1, 100);
      x.set(0, 2, 100);
      x.set(0, 3, 10);
      Due.is("wet and drawn: pull for " + row[0] + " by " + row[1], x.pull(0, 0), row[2]);
    }
    FeltedWash jumper = Due.with(4, 100, 100, 10);
    jumper.machine(0, 60);
    jumper.person(100, 70);
    Due.is("a jumper keeps 40", jumper.pull(0, 0), 23);
    jumper.machine(1, 1);
    Due.is("with towels it is 80 by 80", jumper.pull(0, 0), Due.NONE);
  }

  private static void pullTearsNoHole() {
    FeltedWash x = Due.with(1, 100, 100, 10);
    x.machine(0, 60);
    x.person(98, 80);
    Due.is("15 is too much and it's a hole", x.pull(0, 0), Due.NONE);
    x.set(0, 3, 99);
    Due.is("thick, it bears 34", x.pull(0, 0), 15);
  }

  private static void pullToFifty() {
    FeltedWash x = Due.with(4, 100, 100, 99);
    x.machine(0, 60);
    x.person(110, 60);
    x.person(110, 50);
    x.person(111, 50);
    Due.is("48", x.pull(0, 0), 48);
    Due.is("50, as it is to be narrow", x.pull(0, 1), 50);
    Due.is("51 would be asked", x.pull(0, 2), Due.NONE);
  }

  private static void pullFindings() {
    FeltedWash x = Due.with(1, 100, 100, 10);
    x.person(90, 90);
    int[][] wrong = {{-1, 0}, {1, 0}, {Due.MIN, 0}, {Due.MAX, 0}, {0, -1}, {0, 1}, {0, Due.MIN}, {0, Due.MAX}};
    for (int[] w : wrong) {
      Due.refused("pull(" + w[0] + ", " + w[1] + ")", x, Due.all(x), x.status(-1), x.pull(w[0], w[1]), Due.BEYOND);
    }
    x.set(0, 6, 1);
    Due.refused("pull with a hole", x, Due.all(x), x.status(-1), x.pull(0, 0), Due.NONE);
  }

  /** As GARMENT it never shrinks, and of several the least is due, so it is always 0. */
  private static void kindIsLongest() {
    for (int k = 0; k < 6; k++) {
      FeltedWash x = Due.with(k, 100, 100, 10);
      Due.heat(x, 95, 1);
      String before = Due.all(x);
      Due.is("kind(0, 1) of " + k, x.kind(0, 1), 0);
      Due.is("kind(0, 40) of " + k, x.kind(0, 40), 0);
      Due.that("kind changes nothing", before.equals(Due.all(x)));
      Due.heat(x, 20, 0);
      x.set(0, 1, 10);
      Due.is("all as long: kind(0, 1) of " + k, x.kind(0, 1), 0);
    }
  }

  private static void kindBeyond() {
    FeltedWash x = new FeltedWash();
    x.garment(1);
    int[][] wrong = {{-1, 1}, {1, 1}, {Due.MIN, 1}, {Due.MAX, 1}, {0, 0}, {0, 41}, {0, -1}, {0, Due.MIN}, {0, Due.MAX}};
    for (int[] w : wrong) {
      Due.refused("kind(" + w[0] + ", " + w[1] + ")", x, Due.all(x), x.status(-1), x.kind(w[0], w[1]), Due.BEYOND);
    }
  }

  private static void dressedAhead() {
    FeltedWash x = new FeltedWash();
    x.person(10, 10);
    x.person(100, 100);
    x.person(50, 50);
    x.person(50, 50);
    Due.is("nothing is there: the least", x.dressed(0), 0);
    Due.add(x, 0, 100, 100, 10);
    Due.is("one fits 1", x.dressed(0), 1);
    Due.add(x, 0, 50, 50, 10);
    Due.is("one each for 1, 2, 3: the least", x.dressed(0), 1);
    Due.add(x, 0, 50, 50, 10);
    x.wash(2);
    Due.is("2 is wet", x.dressed(0), 1);
    Due.is("2 is wet in 2 days", x.dressed(2), 1);
    Due.is("2 is dry in 3 days: the least of 2 and 3", x.dressed(3), 2);
    Due.is("in 100 days", x.dressed(100), 2);
    x.draw(2, 30);
    x.set(2, 6, 0);
    String before = Due.all(x);
    Due.is("drawn by 30 it is 65 by 35: too long", x.dressed(3), 1);
    x.set(2, 1, 75);
    x.set(2, 2, 50);
    Due.is("75 goes back to 60", x.dressed(3), 2);
    x.set(2, 1, 80);
    x.set(2, 2, 35);
    Due.that("dressed changes nothing", before.equals(Due.all(x)));
  }

  private static void dressedFindings() {
    FeltedWash x = new FeltedWash();
    x.garment(0);
    int[] wrong = {-1, 101, Due.MIN, Due.MAX};
    for (int w : wrong) {
      Due.refused("nobody: dressed(" + w + ")", x, Due.all(x), x.status(-1), x.dressed(w), Due.BEYOND);
    }
    Due.refused("nobody: dressed(0)", x, Due.all(x), x.status(-1), x.dressed(0), Due.NONE);
    Due.is("NONE is counted", x.status(3), 1);
    x.person(10, 10);
    for (int w : wrong) {
      Due.refused("dressed(" + w + ")", x, Due.all(x), x.status(-1), x.dressed(w), Due.BEYOND);
    }
    Due.is("one who has nothing that fits", x.dressed(100), 0);
  }

  private static void shortestWashedAgain() {
    FeltedWash x = new FeltedWash();
    x.machine(0, 60);
    Due.add(x, 1, 100, 100, 10);
    Due.is("alone", x.shortest(0), 0);
    Due.add(x, 2, 95, 100, 10);
    Due.add(x, 4, 200, 100, 10);
    Due.add(x, 2, 95, 10, 10);
    String before = Due.all(x);
    Due.is("95, the least of two", x.shortest(0), 1);
    Due.is("90 before 93", x.shortest(1), 0);
    Due.is("40 times: all wool at 10", x.shortest(40), 0);
    x.machine(1, 1);
    Due.is("with towels the jumper", x.shortest(8), 2);
    x.machine(1, 0);
    Due.that("shortest changes nothing", before.equals(Due.all(x)));
    x.set(0, 1, 200);
    Due.is("200 is a length too", x.shortest(0), 1);
    FeltedWash most = Due.with(0, 200, 200, 10);
    Due.is("one of 200", most.shortest(0), 0);
  }

  private static void shortestFindings() {
    FeltedWash x = new FeltedWash();
    int[] wrong = {-1, 41, Due.MIN, Due.MAX};
    for (int w : wrong) {
      Due.refused("no garment: shortest(" + w + ")", x, Due.all(x), x.status(-1), x.shortest(w), Due.BEYOND);
    }
    Due.refused("no garment: shortest(0)", x, Due.all(x), x.status(-1), x.shortest(0), Due.NONE);
    Due.is("NONE is counted", x.status(3), 1);
    x.garment(0);
    for (int w : wrong) {
      Due.refused("shortest(" + w + ")", x, Due.all(x), x.status(-1), x.shortest(w), Due.BEYOND);
    }
  }
}
