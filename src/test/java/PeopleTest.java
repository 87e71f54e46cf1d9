/** Promises 11 to 13: person, size, fits. */
public final class PeopleTest {
  public static void main(String[] args) {
    personGivesNumbers();
    personFindings();
    sizeBeyond();
    fitsByLengthAndBreadth();
    fitsOnlyDryAndWhole();
    fitsTellsASet();
    fitsBeyond();
    Due.end();
  }

  private static void personGivesNumbers() {
    FeltedWash x = new FeltedWash();
    int[][] sizes = {{10, 200}, {200, 10}, {100, 90}, {11, 12}, {13, 14}, {15, 16}};
    for (int i = 0; i < 6; i++) {
      Due.is("person " + i, x.person(sizes[i][0], sizes[i][1]), i);
    }
    for (int i = 0; i < 6; i++) {
      Due.is("size(" + i + ", 0)", x.size(i, 0), sizes[i][0]);
      Due.is("size(" + i + ", 1)", x.size(i, 1), sizes[i][1]);
    }
    Due.is("count(1)", x.count(1), 6);
  }

  private static void personFindings() {
    FeltedWash x = new FeltedWash();
    int[][] wrong = {{9, 50}, {201, 50}, {50, 9}, {50, 201}, {Due.MIN, 50}, {50, Due.MIN}, {Due.MAX, 50}, {50, Due.MAX}, {0, 0}};
    for (int[] w : wrong) {
      Due.refused("person(" + w[0] + ", " + w[1] + ")", x, Due.all(x), x.status(-1), x.person(w[0], w[1]), Due.BEYOND);
    }
    for (int i = 0; i < 6; i++) {
      x.person(10, 10);
    }
    String before = Due.all(x);
    Due.is("a 7th", x.person(50, 50), Due.FULL);
    Due.is("FULL is counted", x.status(1), 1);
    Due.is("BEYOND is asked first", x.person(9, 50), Due.BEYOND);
    Due.is("BEYOND of breadth, too", x.person(50, 201), Due.BEYOND);
    Due.that("nothing changes", before.equals(Due.all(x)));
  }

  private static void sizeBeyond() {
    FeltedWash x = new FeltedWash();
    Due.is("nobody: size(0, 0)", x.size(0, 0), Due.BEYOND);
    x.person(50, 60);
    int[][] wrong = {{-1, 0}, {1, 0}, {6, 0}, {Due.MIN, 0}, {Due.MAX, 0}, {0, -1}, {0, 2}, {0, Due.MIN}, {0, Due.MAX}};
    for (int[] w : wrong) {
      Due.refused("size(" + w[0] + ", " + w[1] + ")", x, Due.all(x), x.status(-1), x.size(w[0], w[1]), Due.BEYOND);
    }
  }

  private static void fitsByLengthAndBreadth() {
    FeltedWash x = new FeltedWash();
    x.garment(0);
    x.person(50, 70);
    int[][] rows = {
      {49, 70, 0}, {50, 70, 1}, {60, 70, 1}, {61, 70, 0}, {50, 69, 0}, {50, 85, 1}, {50, 86, 0}, {60, 85, 1}, {70, 50, 0}
    };
    for (int[] row : rows) {
      x.set(0, 1, row[0]);
      x.set(0, 2, row[1]);
      Due.is(row[0] + " by " + row[1] + ": fits(0)", x.fits(0), row[2]);
    }
  }

  private static void fitsOnlyDryAndWhole() {
    FeltedWash x = new FeltedWash();
    x.garment(0);
    x.person(100, 100);
    x.set(0, 6, 1);
    Due.is("with a hole", x.fits(0), 0);
    x.set(0, 6, 0);
    Due.is("without", x.fits(0), 1);
    x.wash(0);
    for (int day = 0; day < 3; day++) {
      Due.is("wet on day " + day, x.fits(0), 0);
      x.days(1);
    }
    Due.is("dry", x.fits(0), 1);
  }

  private static void fitsTellsASet() {
    FeltedWash x = new FeltedWash();
    for (int i = 0; i < 8; i++) {
      Due.add(x, i % 6, 100 + i, 100, 10);
    }
    x.person(105, 100);
    x.person(90, 90);
    x.person(10, 10);
    Due.is("those as long as 105 or more", x.fits(0), 0b11100000);
    Due.is("only the one that is 100", x.fits(1), 1);
    Due.is("none", x.fits(2), 0);
  }

  private static void fitsBeyond() {
    FeltedWash x = new FeltedWash();
    x.garment(0);
    Due.is("nobody: fits(0)", x.fits(0), Due.BEYOND);
    x.person(100, 100);
    int[] wrong = {-1, 1, 6, Due.MIN, Due.MAX};
    for (int w : wrong) {
      Due.refused("fits(" + w + ")", x, Due.all(x), x.status(-1), x.fits(w), Due.BEYOND);
    }
  }
}
