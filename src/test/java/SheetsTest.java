/** Promises 26 to 31: sheet, write, copy, lays, book, read. */
public final class SheetsTest {
  private static final int[] BITS = {8, 16, 64};

  public static void main(String[] args) {
    sheetBeginsAnew();
    sheetFindings();
    writeKeepsTheLowestBits();
    writeFindings();
    copyBetweenAndWithin();
    copyFindings();
    laysGarments();
    laysFindings();
    bookOfWashes();
    bookFindings();
    readCountsPairs();
    readFindings();
    Due.end();
  }

  private static void sheetBeginsAnew() {
    FeltedWash x = new FeltedWash();
    for (int s = 0; s <= 3; s++) {
      for (int bits : BITS) {
        Due.is("sheet(" + s + ", " + bits + ", 40)", x.sheet(s, bits, 40), 40);
        for (int i = 0; i < 40; i++) {
          Due.is("0 at first", x.write(s, i, i + 1), 0);
        }
        Due.is("anew", x.sheet(s, bits, 3), 3);
        Due.is("0 anew", x.write(s, 2, 7), 0);
        Due.is("no number 3", x.write(s, 3, 7), Due.BEYOND);
        Due.is("of none", x.sheet(s, bits, 0), 0);
        Due.is("of none it is not MISSING", x.lays(s), 0);
        Due.is("longer again", x.sheet(s, bits, 40), 40);
        Due.is("0 again", x.write(s, 2, 7), 0);
        Due.is("0 behind, too", x.write(s, 39, 7), 0);
      }
      Due.is("bits 0", x.sheet(s, 0, 17), 0);
      Due.is("it is MISSING", x.lays(s), Due.MISSING);
      Due.is("bits 0 of none", x.sheet(s, 0, 0), 0);
      Due.is("bits 0 of 40", x.sheet(s, 0, 40), 0);
    }
  }

  private static void sheetFindings() {
    FeltedWash x = new FeltedWash();
    x.sheet(0, 16, 2);
    x.write(0, 1, 77);
    int[][] rows = {
      {-1, 8, 1, Due.BEYOND}, {4, 8, 1, Due.BEYOND}, {Due.MIN, 8, 1, Due.BEYOND}, {Due.MAX, 8, 1, Due.BEYOND},
      {4, 8, -1, Due.BEYOND}, {0, 7, 1, Due.BEYOND}, {0, 32, 1, Due.BEYOND}, {0, -8, 1, Due.BEYOND}, {0, 1, -1, Due.BEYOND},
      {0, Due.MIN, 1, Due.BEYOND}, {0, 8, -1, Due.SIZE}, {0, 16, Due.MIN, Due.SIZE}, {0, 64, -41, Due.SIZE},
      {0, 0, -1, Due.SIZE}, {0, 8, 41, Due.BEYOND}, {0, 64, Due.MAX, Due.BEYOND}, {0, 0, 41, Due.BEYOND}
    };
    for (int[] row : rows) {
      String call = "sheet(" + row[0] + ", " + row[1] + ", " + row[2] + ")";
      Due.refused(call, x, Due.all(x), x.status(-1), x.sheet(row[0], row[1], row[2]), row[3]);
    }
    Due.is("SIZE is counted", x.status(6), 4);
    Due.is("the sheet is as it was", x.write(0, 1, 0), 77);
    Due.is("so long, too", x.write(0, 2, 0), Due.BEYOND);
  }

  private static void writeKeepsTheLowestBits() {
    long[] values = {1, 127, 128, 200, 255, 256, 300, -1, -128, -129, 32767, 32768, 65535, 65536, Long.MIN_VALUE, Long.MAX_VALUE, 1L << 40};
    FeltedWash x = new FeltedWash();
    x.sheet(0, 8, 2);
    x.sheet(1, 16, 2);
    x.sheet(2, 64, 2);
    long was8 = 0;
    long was16 = 0;
    long was64 = 0;
    for (long v : values) {
      Due.is("8 bits", x.write(0, 1, v), was8);
      Due.is("16 bits", x.write(1, 1, v), was16);
      Due.is("64 bits", x.write(2, 1, v), was64);
      was8 = (byte) v;
      was16 = (short) v;
      was64 = v;
    }
    Due.is("the number beside", x.write(0, 0, 0), 0);
    x.write(2, 0, Due.BEYOND);
    Due.is("a number may look like a finding", x.write(2, 0, 0), Due.BEYOND);
    Due.is("but is none", x.status(-1), 0);
  }

  private static void writeFindings() {
    FeltedWash x = new FeltedWash();
    x.sheet(3, 8, 5);
    int[][] rows = {
      {-1, 0, Due.BEYOND}, {4, 0, Due.BEYOND}, {Due.MIN, -1, Due.BEYOND}, {Due.MAX, 0, Due.BEYOND}, {0, 0, Due.MISSING},
      {0, -1, Due.MISSING}, {2, 40, Due.MISSING}, {3, -1, Due.BEYOND}, {3, 5, Due.BEYOND}, {3, 40, Due.BEYOND},
      {3, Due.MIN, Due.BEYOND}, {3, Due.MAX, Due.BEYOND}
    };
    for (int[] row : rows) {
      Due.refused("write(" + row[0] + ", " + row[1] + ", 9)", x, Due.all(x), x.status(-1), x.write(row[0], row[1], 9), row[2]);
    }
    Due.is("MISSING is counted", x.status(5), 3);
    for (int i = 0; i < 5; i++) {
      Due.is("nothing was written", x.write(3, i, 0), 0);
    }
  }

  private static void copyBetweenAndWithin() {
    for (int bits : BITS) {
      FeltedWash x = new FeltedWash();
      fill(x, 0, bits, 5);
      x.sheet(1, bits, 3);
      Due.is("copy to another", x.copy(0, 3, 1, 1, 2), 2);
      holds("another", x, 1, 0, 4, 5);
      holds("the source stays", x, 0, 1, 2, 3, 4, 5);
      fill(x, 0, bits, 5);
      Due.is("copy up within", x.copy(0, 0, 0, 1, 4), 4);
      holds("up", x, 0, 1, 1, 2, 3, 4);
      fill(x, 0, bits, 5);
      Due.is("copy down within", x.copy(0, 1, 0, 0, 4), 4);
      holds("down", x, 0, 2, 3, 4, 5, 5);
      fill(x, 0, bits, 5);
      Due.is("none at the end", x.copy(0, 5, 1, 3, 0), 0);
      Due.is("all", x.copy(0, 0, 0, 0, 5), 5);
      holds("as it was", x, 0, 1, 2, 3, 4, 5);
    }
  }

  private static void fill(FeltedWash x, int s, int bits, int n) {
    x.sheet(s, bits, n);
    for (int i = 0; i < n; i++) {
      x.write(s, i, i + 1);
    }
  }

  /** Asks by writing, so the numbers are 0 then. */
  private static void holds(String when, FeltedWash x, int s, long... numbers) {
    for (int i = 0; i < numbers.length; i++) {
      Due.is(when + ": number " + i + " of " + s, x.write(s, i, 0), numbers[i]);
      x.write(s, i, numbers[i]);
    }
  }

  private static void copyFindings() {
    FeltedWash x = new FeltedWash();
    fill(x, 0, 8, 5);
    fill(x, 1, 8, 3);
    fill(x, 2, 16, 5);
    int[][] rows = {
      {-1, 0, 0, 0, 1, Due.BEYOND}, {4, 0, 0, 0, 1, Due.BEYOND}, {0, 0, -1, 0, 1, Due.BEYOND}, {0, 0, 4, 0, 1, Due.BEYOND},
      {3, 0, 4, 0, 1, Due.BEYOND}, {Due.MAX, 0, 3, 0, 1, Due.BEYOND}, {3, 0, 0, 0, 1, Due.MISSING}, {0, 0, 3, 0, 1, Due.MISSING},
      {3, -1, 3, -1, -1, Due.MISSING}, {2, 0, 3, 0, 1, Due.MISSING}, {0, 0, 2, 0, 1, Due.KIND}, {2, 0, 0, 0, 1, Due.KIND},
      {2, -1, 0, -1, -1, Due.KIND}, {0, 0, 2, 0, 0, Due.KIND}, {0, -1, 1, 0, 1, Due.BEYOND}, {0, 0, 1, -1, 1, Due.BEYOND},
      {0, 0, 1, 0, -1, Due.BEYOND}, {0, 0, 1, 0, 4, Due.BEYOND}, {1, 0, 0, 0, 4, Due.BEYOND}, {0, 5, 1, 0, 1, Due.BEYOND},
      {0, 6, 1, 0, 0, Due.BEYOND}, {0, 0, 1, 4, 0, Due.BEYOND}, {0, 0, 1, 1, 3, Due.BEYOND}, {0, 1, 0, 0, Due.MAX, Due.BEYOND},
      {0, Due.MAX, 0, Due.MAX, Due.MAX, Due.BEYOND}, {0, Due.MIN, 0, 0, Due.MIN, Due.BEYOND}, {0, Due.MAX, 0, 0, 1, Due.BEYOND},
      {0, 0, 0, Due.MAX, 1, Due.BEYOND}
    };
    for (int[] r : rows) {
      String call = "copy(" + r[0] + ", " + r[1] + ", " + r[2] + ", " + r[3] + ", " + r[4] + ")";
      Due.refused(call, x, Due.all(x), x.status(-1), x.copy(r[0], r[1], r[2], r[3], r[4]), r[5]);
    }
    holds("refused", x, 0, 1, 2, 3, 4, 5);
    holds("refused", x, 1, 1, 2, 3);
    holds("refused", x, 2, 1, 2, 3, 4, 5);
  }

  private static void laysGarments() {
    FeltedWash x = new FeltedWash();
    for (int i = 0; i < 6; i++) {
      x.garment(i);
    }
    x.wash(1);
    long[] numbers = {10, 200, 9, 201, (1L << 32) + 50, -50, 60, 60};
    x.sheet(2, 64, 8);
    for (int i = 0; i < 8; i++) {
      x.write(2, i, numbers[i]);
    }
    Due.is("lays(2)", x.lays(2), 2);
    Due.toldAs("10", x, 0, "0 10 100 10 0 0 0");
    Due.toldAs("200", x, 1, "1 200 100 10 3 0 0");
    for (int i = 2; i < 6; i++) {
      Due.is("left out: " + numbers[i], x.of(i, 1), 100);
    }
    Due.is("none comes of numbers 6, 7", x.count(0), 6);
    x.sheet(1, 16, 2);
    x.write(1, 1, 123);
    Due.is("fewer numbers than garments", x.lays(1), 1);
    Due.is("number 1 is for garment 1", x.of(1, 1), 123);
    Due.is("number 0 is left out", x.of(0, 1), 10);
    Due.is("the sheet stays", x.write(1, 1, 0), 123);
    x.sheet(0, 8, 1);
    x.write(0, 0, 200);
    Due.is("200 is below 0 in 8 bits", x.lays(0), 0);
  }

  private static void laysFindings() {
    FeltedWash x = new FeltedWash();
    x.garment(0);
    int[] wrong = {-1, 4, Due.MIN, Due.MAX};
    for (int w : wrong) {
      Due.refused("lays(" + w + ")", x, Due.all(x), x.status(-1), x.lays(w), Due.BEYOND);
    }
    Due.refused("lays(0)", x, Due.all(x), x.status(-1), x.lays(0), Due.MISSING);
  }

  private static void bookOfWashes() {
    FeltedWash x = Due.with(4, 150, 60, 10);
    Due.heat(x, 60, 1);
    x.sheet(1, 16, 4);
    String before = Due.all(x);
    Due.is("book(1, 0)", x.book(1, 0), 4);
    holds("book", x, 1, 150, 120, 96, 77);
    x.machine(1, 0);
    x.sheet(1, 64, 2);
    Due.is("without towels", x.book(1, 0), 2);
    holds("book", x, 1, 150, 135);
    x.machine(1, 1);
    Due.that("book changes no garment", before.equals(Due.all(x)));
    x.sheet(1, 8, 3);
    Due.is("8 bits", x.book(1, 0), 3);
    holds("150 in 8 bits", x, 1, (byte) 150, 120, 96);
    x.sheet(1, 8, 40);
    Due.is("40 numbers", x.book(1, 0), 40);
    Due.is("the last", x.write(1, 39, 0), 10);
    x.sheet(1, 8, 0);
    Due.is("of none", x.book(1, 0), 0);
    Due.add(x, 2, 90, 90, 10);
    x.sheet(0, 16, 2);
    x.book(0, 1);
    holds("another garment", x, 0, 90, 88);
  }

  private static void bookFindings() {
    FeltedWash x = new FeltedWash();
    x.garment(0);
    x.sheet(0, 8, 2);
    x.write(0, 0, 5);
    int[][] rows = {
      {-1, 0, Due.BEYOND}, {4, 0, Due.BEYOND}, {Due.MAX, -1, Due.BEYOND}, {1, 0, Due.MISSING}, {1, -1, Due.MISSING},
      {3, 1, Due.MISSING}, {0, -1, Due.BEYOND}, {0, 1, Due.BEYOND}, {0, Due.MIN, Due.BEYOND}, {0, Due.MAX, Due.BEYOND}
    };
    for (int[] row : rows) {
      Due.refused("book(" + row[0] + ", " + row[1] + ")", x, Due.all(x), x.status(-1), x.book(row[0], row[1]), row[2]);
    }
    Due.is("the sheet stays", x.write(0, 0, 5), 5);
  }

  /** Rows: towels, how many pairs are due, the numbers; for one of 100. */
  private static void readCountsPairs() {
    int[][] rows = {
      {0, 456}, {0, 456, 100}, {1, 456, 100}, {0, 0, 99}, {0, 161, 100, 100}, {1, 161, 100, 100}, {0, 44, 100, 98},
      {1, 44, 100, 98}, {0, 40, 100, 96}, {0, 20, 100, 95}, {1, 18, 100, 95}, {0, 35, 100, 50}, {1, 37, 100, 50},
      {0, 4, 100, 90, 81}, {1, 4, 100, 90, 81}, {0, 0, 100, 90, 82}, {0, 0, 100, 101}, {0, 161, 100, 100, 100, 100}
    };
    for (int k = 0; k < 6; k++) {
      FeltedWash x = Due.with(k, 100, 100, 10);
      x.machine(0, 90);
      for (int[] row : rows) {
        x.machine(1, row[0]);
        x.sheet(0, 16, row.length - 2);
        for (int i = 2; i < row.length; i++) {
          x.write(0, i - 2, row[i]);
        }
        String before = Due.all(x);
        Due.is("pairs for " + java.util.Arrays.toString(row), x.read(0, 0), row[1]);
        Due.that("read changes nothing", before.equals(Due.all(x)));
      }
    }
    FeltedWash x = Due.with(1, 150, 100, 10);
    x.sheet(0, 8, 1);
    x.book(0, 0);
    Due.is("150 in 8 bits is another number", x.read(0, 0), 0);
    x.sheet(1, 64, 1);
    x.write(1, 0, (1L << 32) + 150);
    Due.is("so it is in 64 bits", x.read(1, 0), 0);
  }

  private static void readFindings() {
    FeltedWash x = new FeltedWash();
    x.garment(0);
    x.sheet(0, 8, 2);
    int[][] rows = {
      {-1, 0, Due.BEYOND}, {4, 0, Due.BEYOND}, {Due.MAX, -1, Due.BEYOND}, {1, 0, Due.MISSING}, {1, -1, Due.MISSING},
      {3, 1, Due.MISSING}, {0, -1, Due.BEYOND}, {0, 1, Due.BEYOND}, {0, Due.MIN, Due.BEYOND}, {0, Due.MAX, Due.BEYOND}
    };
    for (int[] row : rows) {
      Due.refused("read(" + row[0] + ", " + row[1] + ")", x, Due.all(x), x.status(-1), x.read(row[0], row[1]), row[2]);
    }
  }
}
