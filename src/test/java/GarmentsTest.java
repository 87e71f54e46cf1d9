/** Promises 4 to 10: garment, of, set, wash, draw, turn, as, and the kinds. */
public final class GarmentsTest {
  private static final String[] KINDS = {"GARMENT", "WOOL", "COTTON", "SILK", "JUMPER", "SOCK"};

  public static void main(String[] args) {
    garmentGivesNumbers();
    garmentBeyondBeforeFull();
    shrinksByKind();
    feltsByKind();
    bearsByKind();
    keepsByKind();
    ofBeyond();
    setAnswersWhatItWas();
    setBeyond();
    washShrinksAndFelts();
    washIsHeldToItsEnds();
    washBeyond();
    drawStretches();
    drawTearsHoles();
    drawBeyondBeforeState();
    turnBecomesAnother();
    turnBeyond();
    asAnswersThick();
    asFindings();
    Due.end();
  }

  private static void garmentGivesNumbers() {
    FeltedWash x = new FeltedWash();
    int[] kinds = {5, 4, 3, 2, 1, 0, 5, 5};
    for (int i = 0; i < 8; i++) {
      Due.is("garment(" + kinds[i] + ")", x.garment(kinds[i]), i);
    }
    for (int i = 0; i < 8; i++) {
      Due.toldAs("new", x, i, kinds[i] + " 100 100 10 0 0 0");
    }
    Due.is("count(0)", x.count(0), 8);
  }

  private static void garmentBeyondBeforeFull() {
    FeltedWash x = new FeltedWash();
    int[] wrong = {-1, 6, Due.MIN, Due.MAX};
    for (int w : wrong) {
      Due.refused("garment(" + w + ")", x, Due.all(x), x.status(-1), x.garment(w), Due.BEYOND);
    }
    for (int i = 0; i < 8; i++) {
      x.garment(i % 6);
    }
    String before = Due.all(x);
    Due.is("a 9th", x.garment(0), Due.FULL);
    Due.is("FULL is counted", x.status(1), 1);
    Due.is("BEYOND is asked first", x.garment(6), Due.BEYOND);
    Due.that("FULL changes nothing", before.equals(Due.all(x)));
  }

  /** Rows: degrees, towels, then what each kind shrinks. */
  private static void shrinksByKind() {
    int[][] rows = {
      {20, 0, 0, 0, 1, 0, 0, 1}, {39, 0, 0, 0, 1, 0, 0, 1}, {40, 0, 0, 0, 2, 0, 0, 2},
      {40, 1, 0, 0, 2, 0, 0, 2}, {41, 0, 0, 0, 2, 0, 0, 2}, {41, 1, 0, 0, 2, 0, 0, 2},
      {42, 0, 0, 1, 2, 0, 1, 2}, {42, 1, 0, 1, 2, 0, 2, 2}, {43, 1, 0, 1, 2, 0, 2, 2},
      {59, 0, 0, 9, 2, 0, 9, 2}, {60, 0, 0, 10, 3, 0, 10, 4}, {60, 1, 0, 10, 3, 0, 20, 4},
      {61, 0, 0, 10, 3, 50, 10, 4}, {79, 1, 0, 19, 3, 50, 38, 4}, {80, 0, 0, 20, 4, 50, 20, 5},
      {95, 0, 0, 27, 4, 50, 27, 5}, {95, 1, 0, 27, 4, 50, 54, 5}
    };
    FeltedWash x = oneOfEachKind();
    for (int[] row : rows) {
      Due.heat(x, row[0], row[1]);
      for (int k = 0; k < 6; k++) {
        Due.is(KINDS[k] + " SHRINKS at " + row[0] + " towels " + row[1], x.of(k, 7), row[2 + k]);
      }
    }
  }

  /** Rows: degrees, towels, then what each kind felts. */
  private static void feltsByKind() {
    int[][] rows = {
      {40, 1, 0, 0, 0, 0, 0, 2}, {42, 0, 0, 0, 0, 0, 1, 2}, {42, 1, 0, 0, 0, 0, 1, 2},
      {45, 0, 0, 0, 0, 0, 1, 2}, {46, 0, 0, 1, 0, 0, 2, 2}, {46, 1, 0, 1, 0, 0, 3, 2},
      {60, 1, 0, 3, 0, 0, 7, 2}, {61, 0, 0, 3, 0, 0, 4, 2}, {95, 0, 0, 9, 0, 0, 10, 2},
      {95, 1, 0, 9, 0, 0, 19, 2}
    };
    FeltedWash x = oneOfEachKind();
    for (int[] row : rows) {
      Due.heat(x, row[0], row[1]);
      for (int k = 0; k < 6; k++) {
        Due.is(KINDS[k] + " FELTS at " + row[0] + " towels " + row[1], x.of(k, 8), row[2 + k]);
      }
    }
  }

  /** Rows: thick, holes, then what each kind bears. */
  private static void bearsByKind() {
    int[][] rows = {
      {1, 0, 10, 10, 5, 3, 20, 5}, {3, 1, 10, 10, 5, 3, 20, 6}, {4, 0, 10, 11, 5, 3, 22, 5},
      {10, 7, 10, 12, 5, 3, 24, 12}, {99, 9999, 10, 34, 5, 3, 68, 10004}
    };
    FeltedWash x = oneOfEachKind();
    for (int[] row : rows) {
      for (int k = 0; k < 6; k++) {
        x.set(k, 3, row[0]);
        x.set(k, 6, row[1]);
        Due.is(KINDS[k] + " BEARS, thick " + row[0] + " holes " + row[1], x.of(k, 9), row[2 + k]);
      }
    }
  }

  private static void keepsByKind() {
    int[] keeps = {50, 50, 20, 100, 40, 20};
    FeltedWash x = oneOfEachKind();
    for (int k = 0; k < 6; k++) {
      Due.is(KINDS[k] + " KEEPS", x.of(k, 10), keeps[k]);
    }
  }

  private static FeltedWash oneOfEachKind() {
    FeltedWash x = new FeltedWash();
    for (int k = 0; k < 6; k++) {
      x.garment(k);
    }
    return x;
  }

  private static void ofBeyond() {
    FeltedWash x = new FeltedWash();
    x.garment(4);
    int[][] wrong = {{-1, 1}, {1, 1}, {8, 1}, {Due.MIN, 0}, {Due.MAX, 0}, {0, -1}, {0, 11}, {0, Due.MIN}, {0, Due.MAX}};
    for (int[] w : wrong) {
      Due.refused("of(" + w[0] + ", " + w[1] + ")", x, Due.all(x), x.status(-1), x.of(w[0], w[1]), Due.BEYOND);
    }
  }

  private static void setAnswersWhatItWas() {
    FeltedWash x = new FeltedWash();
    x.garment(1);
    x.garment(2);
    Due.is("set(1, 1, 10)", x.set(1, 1, 10), 100);
    Due.is("set(1, 1, 200)", x.set(1, 1, 200), 10);
    Due.is("set(1, 2, 200)", x.set(1, 2, 200), 100);
    Due.is("set(1, 2, 10)", x.set(1, 2, 10), 200);
    Due.is("set(1, 3, 1)", x.set(1, 3, 1), 10);
    Due.is("set(1, 3, 99)", x.set(1, 3, 99), 1);
    Due.is("set(1, 6, 9999)", x.set(1, 6, 9999), 0);
    Due.is("set(1, 6, 3)", x.set(1, 6, 3), 9999);
    Due.toldAs("set", x, 1, "2 200 10 99 0 0 3");
    Due.toldAs("the other is left", x, 0, "1 100 100 10 0 0 0");
    Due.is("set(1, 6, 0)", x.set(1, 6, 0), 3);
    Due.is("no finding", x.status(-1), 0);
  }

  private static void setBeyond() {
    int[][] wrong = {
      {-1, 1, 50}, {1, 1, 50}, {Due.MIN, 1, 50}, {Due.MAX, 1, 50},
      {0, 0, 1}, {0, 4, 1}, {0, 5, 1}, {0, 7, 10}, {0, -1, 50}, {0, 8, 50}, {0, 9, 50}, {0, 10, 50}, {0, Due.MAX, 50},
      {0, 1, 9}, {0, 1, 201}, {0, 1, Due.MIN}, {0, 1, Due.MAX}, {0, 2, 9}, {0, 2, 201}, {0, 2, -100},
      {0, 3, 0}, {0, 3, 100}, {0, 3, -1}, {0, 6, -1}, {0, 6, 10000}, {0, 6, Due.MAX}
    };
    FeltedWash x = new FeltedWash();
    x.garment(0);
    for (int[] w : wrong) {
      String call = "set(" + w[0] + ", " + w[1] + ", " + w[2] + ")";
      Due.refused(call, x, Due.all(x), x.status(-1), x.set(w[0], w[1], w[2]), Due.BEYOND);
    }
  }

  private static void washShrinksAndFelts() {
    FeltedWash x = Due.with(4, 99, 87, 10);
    Due.heat(x, 60, 1);
    Due.is("wash(0) at 60 with towels", x.wash(0), 80);
    Due.toldAs("washed", x, 0, "4 80 70 17 3 0 0");
    x.draw(0, 10);
    x.set(0, 6, 2);
    Due.heat(x, 60, 0);
    Due.is("wash(0) while wet and drawn", x.wash(0), 81);
    Due.toldAs("washed again", x, 0, "4 81 59 21 3 0 2");
    x.days(2);
    x.wash(0);
    Due.is("wet for 3 days anew", x.of(0, 4), 3);
    Due.is("the machine stays", x.now(1), 60);

    FeltedWash sock = Due.with(5, 100, 100, 10);
    Due.is("a sock at 40", sock.wash(0), 98);
    Due.toldAs("a sock", sock, 0, "5 98 98 12 3 0 0");
    FeltedWash plain = Due.with(0, 100, 100, 10);
    Due.heat(plain, 95, 1);
    Due.is("a garment at 95", plain.wash(0), 100);
    Due.toldAs("a garment", plain, 0, "0 100 100 10 3 0 0");
  }

  private static void washIsHeldToItsEnds() {
    FeltedWash x = Due.with(4, 21, 22, 81);
    Due.heat(x, 95, 1);
    Due.is("21 less 11", x.wash(0), 10);
    Due.toldAs("THICK 99 at most", x, 0, "4 10 11 99 3 0 0");
    Due.is("10 at least", x.wash(0), 10);
    Due.toldAs("BROAD 10 at least", x, 0, "4 10 10 99 3 0 0");
    FeltedWash sock = Due.with(5, 19, 19, 97);
    Due.is("19 times 2 by 100 is cut to 0", sock.wash(0), 19);
    Due.is("97 and 2", sock.of(0, 3), 99);
    sock.wash(0);
    Due.is("99 stays", sock.of(0, 3), 99);
  }

  private static void washBeyond() {
    FeltedWash x = new FeltedWash();
    x.garment(4);
    int[] wrong = {-1, 1, 8, Due.MIN, Due.MAX};
    for (int w : wrong) {
      Due.refused("wash(" + w + ")", x, Due.all(x), x.status(-1), x.wash(w), Due.BEYOND);
    }
  }

  private static void drawStretches() {
    FeltedWash x = Due.with(4, 100, 100, 10);
    x.wash(0);
    Due.is("draw(0, 1)", x.draw(0, 1), 101);
    Due.toldAs("half of 1 is cut", x, 0, "4 101 100 10 3 1 0");
    Due.is("draw(0, 7)", x.draw(0, 7), 108);
    Due.toldAs("half of 7 is 3", x, 0, "4 108 97 10 3 8 0");
    x.set(0, 1, 180);
    x.set(0, 2, 30);
    Due.is("200 at most", x.draw(0, 50), 200);
    Due.toldAs("BROAD 10 at least", x, 0, "4 200 10 10 3 58 1");
    x.days(1);
    Due.is("drawn on its second wet day", x.draw(0, 2), 200);
    Due.is("DRAWN goes on", x.of(0, 5), 60);
  }

  private static void drawTearsHoles() {
    int[] bears = {10, 12, 5, 3, 24, 5};
    for (int k = 0; k < 6; k++) {
      FeltedWash x = Due.with(k, 100, 100, 10);
      Due.heat(x, 20, 0);
      x.wash(0);
      x.set(0, 3, 10);
      x.draw(0, bears[k]);
      Due.is(KINDS[k] + " bears it", x.of(0, 6), 0);
      x.draw(0, 1);
      Due.is(KINDS[k] + " bears no more", x.of(0, 6), 1);
      x.draw(0, 1);
      Due.is(KINDS[k] + ": each time above, a hole", x.of(0, 6), 2);
    }
    FeltedWash sock = Due.with(5, 100, 100, 10);
    sock.set(0, 6, 1);
    sock.wash(0);
    sock.draw(0, 6);
    Due.is("a sock bears 1 more for its hole", sock.of(0, 6), 1);
    FeltedWash full = Due.with(0, 100, 100, 10);
    full.set(0, 6, 9998);
    full.wash(0);
    full.draw(0, 11);
    Due.is("HOLES to 9999", full.of(0, 6), 9999);
    full.draw(0, 1);
    Due.is("HOLES held to 9999", full.of(0, 6), 9999);
  }

  private static void drawBeyondBeforeState() {
    FeltedWash x = new FeltedWash();
    x.garment(1);
    int[][] wrong = {{-1, 1}, {1, 1}, {Due.MAX, 1}, {Due.MIN, 1}, {0, 0}, {0, 51}, {0, -1}, {0, Due.MIN}, {0, Due.MAX}};
    for (int[] w : wrong) {
      String call = "dry: draw(" + w[0] + ", " + w[1] + ")";
      Due.refused(call, x, Due.all(x), x.status(-1), x.draw(w[0], w[1]), Due.BEYOND);
    }
    String before = Due.all(x);
    Due.is("dry: draw(0, 1)", x.draw(0, 1), Due.STATE);
    Due.is("dry: draw(0, 50)", x.draw(0, 50), Due.STATE);
    Due.is("STATE is counted", x.status(4), 2);
    Due.that("STATE changes nothing", before.equals(Due.all(x)));
    x.wash(0);
    for (int[] w : wrong) {
      String call = "wet: draw(" + w[0] + ", " + w[1] + ")";
      Due.refused(call, x, Due.all(x), x.status(-1), x.draw(w[0], w[1]), Due.BEYOND);
    }
    x.days(3);
    Due.is("dry again: draw(0, 1)", x.draw(0, 1), Due.STATE);
  }

  private static void turnBecomesAnother() {
    FeltedWash x = Due.with(1, 120, 80, 20);
    x.wash(0);
    x.draw(0, 20);
    Due.is("turn(0, 5)", x.turn(0, 5), 1);
    Due.toldAs("only the kind is other", x, 0, "5 140 70 20 3 20 1");
    Due.is("it bears as a sock", x.of(0, 9), 6);
    Due.is("turn(0, 0)", x.turn(0, 0), 5);
    Due.is("turn(0, 0) again", x.turn(0, 0), 0);
    Due.is("turn(0, 4)", x.turn(0, 4), 0);
    x.days(3);
    Due.is("it keeps as a jumper: 12 of 20 go back", x.of(0, 1), 128);
  }

  private static void turnBeyond() {
    FeltedWash x = new FeltedWash();
    x.garment(3);
    int[][] wrong = {{-1, 1}, {1, 1}, {Due.MIN, 1}, {Due.MAX, 1}, {0, -1}, {0, 6}, {0, Due.MIN}, {0, Due.MAX}};
    for (int[] w : wrong) {
      Due.refused("turn(" + w[0] + ", " + w[1] + ")", x, Due.all(x), x.status(-1), x.turn(w[0], w[1]), Due.BEYOND);
    }
  }

  private static void asAnswersThick() {
    boolean[][] is = {
      {true, false, false, false, false, false},
      {true, true, false, false, false, false},
      {true, false, true, false, false, false},
      {true, false, false, true, false, false},
      {true, true, false, false, true, false},
      {true, false, true, false, false, true}
    };
    FeltedWash x = oneOfEachKind();
    for (int g = 0; g < 6; g++) {
      x.set(g, 3, 11 + g);
      for (int k = 0; k < 6; k++) {
        String call = KINDS[g] + " as " + KINDS[k];
        Due.is(call, x.as(g, k), is[g][k] ? 11 + g : Due.KIND);
      }
    }
    Due.is("KIND is counted", x.status(2), 36 - 13);
    x.turn(4, 5);
    Due.is("turned: as COTTON", x.as(4, 2), 15);
    Due.is("turned: as WOOL no more", x.as(4, 1), Due.KIND);
  }

  private static void asFindings() {
    FeltedWash x = new FeltedWash();
    x.garment(3);
    int[][] wrong = {{-1, 0}, {1, 0}, {Due.MIN, 0}, {Due.MAX, 0}, {0, -1}, {0, 6}, {0, Due.MIN}, {0, Due.MAX}};
    for (int[] w : wrong) {
      Due.refused("as(" + w[0] + ", " + w[1] + ")", x, Due.all(x), x.status(-1), x.as(w[0], w[1]), Due.BEYOND);
    }
    Due.refused("as(0, 1)", x, Due.all(x), x.status(-1), x.as(0, 1), Due.KIND);
  }
}
