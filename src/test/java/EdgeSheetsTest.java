/** The boundaries of promises 26 to 31: sheets. */
public final class EdgeSheetsTest {
  private static final int[] BITS = {8, 16, 64};
  /** Sheets 0 and 1 are of 16 bits, 2 of 8; 3 is MISSING; garments 0 and 1. */
  private static final String SCENE = """
      machine 0 60
      garment 4
      garment 2
      set 1 1 50
      wash 0
      draw 0 9
      person 50 50
      image
      sheet 0 16 4
      write 0 0 11
      write 0 1 22
      write 0 2 33
      write 0 3 44
      sheet 1 16 2
      write 1 0 -5
      sheet 2 8 4
      write 2 3 7
      type "wool"
      """;

  public static void main(String[] args) {
    sheet();
    sheetFindings();
    writeNumbers();
    writeLowestBits();
    copyRuns();
    copyWithin();
    copyFindings();
    lays();
    laysLeftOut();
    book();
    bookInFewBits();
    readPairs();
    readNumbers();
    bookAndReadFindings();
    Due.end();
  }

  private static void sheet() {
    for (int s = 0; s <= 3; s++) {
      for (int bits : BITS) {
        String sheet = "sheet " + s + " " + bits + " ";
        Edge.holds("Promise 26: A sheet has n numbers, all 0: n", SCENE + sheet + "0 = 0 \n write " + s + " 0 1 = BEYOND \n" + sheet + "1 = 1"
            + "\n write " + s + " 0 9 = 0 \n write " + s + " 1 1 = BEYOND \n" + sheet + "40 = 40 \n write " + s + " 0 1 = 0 \n write " + s
            + " 39 1 = 0 \n write " + s + " 40 1 = BEYOND \n" + sheet + "40 = 40 \n write " + s + " 39 1 = 0");
      }
      Edge.holds("Promise 26: bits 0: it is MISSING: 0", SCENE + "sheet " + s + " 8 3 = 3 \n lays " + s + " = 0 \n sheet " + s + " 0 1 = 0 \n lays "
          + s + " = MISSING \n sheet " + s + " 0 0 = 0 \n sheet " + s + " 0 40 = 0 \n sheet " + s + " 16 2 = 2 \n write " + s + " 1 0 = 0");
    }
  }

  private static void sheetFindings() {
    Edge.range("Promise 26: BEYOND: no such sheet", SCENE, "sheet * 8 1", 0, 3);
    for (int bits : new int[] {Due.MIN, -64, -16, -8, -1, 1, 7, 9, 15, 17, 24, 32, 63, 65, 128, Due.MAX}) {
      Edge.holds("Promise 26: BEYOND: other bits", SCENE + "sheet 0 " + bits + " 1 = BEYOND \n sheet 3 " + bits + " 0 = BEYOND");
    }
    for (int bits : new int[] {0, 8, 16, 64}) {
      Edge.holds("Promise 26: SIZE: n is below 0 (also with bits 0). BEYOND: n is above 40 (also with bits 0)", SCENE + "sheet 0 " + bits
          + " -1 = SIZE \n sheet 0 " + bits + " MIN = SIZE \n sheet 0 " + bits + " 41 = BEYOND \n sheet 0 " + bits + " MAX = BEYOND \n sheet 0 "
          + bits + " 40 = may \n sheet 0 " + bits + " 0 = 0");
    }
    Edge.holds("Promise 26: BEYOND of sheet and bits is asked ahead of SIZE", SCENE + """
        sheet 4 8 -1 = BEYOND
        sheet -1 0 -1 = BEYOND
        sheet 0 7 -1 = BEYOND
        sheet 0 32 MIN = BEYOND
        sheet 4 7 -1 = BEYOND
        sheet 3 8 -1 = SIZE
        """);
  }

  private static void writeNumbers() {
    Edge.range("Promise 27: number i of 4", SCENE, "write 0 * 5", 0, 3);
    Edge.range("Promise 27: number i of 40", "sheet 1 64 40", "write 1 * 5", 0, 39);
    Edge.range("Promise 27: number i of 1", "sheet 1 8 1", "write 1 * 5", 0, 0);
    Edge.range("Promise 27: BEYOND: no such sheet", "sheet 0 8 1 \n sheet 3 8 1 \n sheet 1 8 0", "write * 0 5", 0, 0);
    Edge.holds("Promise 27: no number at all", "sheet 1 8 0 \n write 1 0 5 = BEYOND \n write 1 -1 5 = BEYOND");
    Edge.holds("Promise 27: what it was", SCENE + """
        write 0 3 0 = 44
        write 0 3 5 = 0
        write 0 3 6 = 5
        write 0 0 1 = 11
        write 2 3 9 = 7
        write 1 0 9 = -5
        """);
    Edge.holds("Promise 27: BEYOND: no such sheet, ahead of all; MISSING ahead of BEYOND: no such number", SCENE + """
        write -1 0 5 = BEYOND
        write 4 0 5 = BEYOND
        write 4 -1 5 = BEYOND
        write 3 0 5 = MISSING
        write 3 -1 5 = MISSING
        write 3 40 5 = MISSING
        write 3 MAX 5 = MISSING
        write 0 4 5 = BEYOND
        sheet 0 0 0 = 0
        write 0 0 5 = MISSING
        """);
  }

  /** Numbers of few bits are read as signed, as those of 64 bits are; the document only says "its lowest bits". */
  private static void writeLowestBits() {
    long[][] rows = {
      {8, 0, 0}, {8, 1, 1}, {8, 126, 126}, {8, 127, 127}, {8, 128, -128}, {8, 129, -127}, {8, 254, -2}, {8, 255, -1}, {8, 256, 0}, {8, 257, 1},
      {8, -1, -1}, {8, -127, -127}, {8, -128, -128}, {8, -129, 127}, {8, -256, 0}, {8, Long.MAX_VALUE, -1}, {8, Long.MIN_VALUE, 0},
      {16, 32766, 32766}, {16, 32767, 32767}, {16, 32768, -32768}, {16, 65535, -1}, {16, 65536, 0}, {16, 65537, 1}, {16, -32768, -32768},
      {16, -32769, 32767}, {16, 200, 200}, {16, Long.MAX_VALUE, -1}, {16, Long.MIN_VALUE, 0}, {64, 1L << 31, 1L << 31},
      {64, 1L << 32, 1L << 32}, {64, Long.MAX_VALUE, Long.MAX_VALUE}, {64, Long.MIN_VALUE, Long.MIN_VALUE}, {64, -1, -1}
    };
    for (long[] r : rows) {
      Edge.holds("Promise 27: becomes v (its lowest bits)", "sheet 1 " + r[0] + " 3 \n write 1 1 " + r[1] + " = 0 \n write 1 1 0 = " + r[2]
          + "\n write 1 0 0 = 0 \n write 1 2 0 = 0");
    }
    Edge.holds("Promise 27: a number that looks like a finding is none", """
        sheet 1 64 2
        write 1 0 -1000000001 = 0
        write 1 0 -1000000007 = -1000000001
        write 1 0 0 = -1000000007
        """);
  }

  /** Rows: from, to, n of a copy from sheet 0 (1 2 3 4 5) to sheet 1 (6 7 8), and sheet 1 then. */
  private static void copyRuns() {
    int[][] rows = {
      {0, 0, 0, 6, 7, 8}, {5, 3, 0, 6, 7, 8}, {0, 0, 1, 1, 7, 8}, {4, 2, 1, 6, 7, 5}, {0, 0, 3, 1, 2, 3}, {2, 0, 3, 3, 4, 5}, {3, 1, 2, 6, 4, 5},
      {4, 0, 1, 5, 7, 8}, {0, 3, 0, 6, 7, 8}, {5, 0, 0, 6, 7, 8}
    };
    for (int bits : BITS) {
      for (int[] r : rows) {
        Edge.holds("Promise 28: n numbers of a sheet from one on come to another one from one on: n", two(bits) + "copy 0 " + r[0] + " 1 " + r[1]
            + " " + r[2] + " = " + r[2] + "\n write 1 0 0 = " + r[3] + "\n write 1 1 0 = " + r[4] + "\n write 1 2 0 = " + r[5]);
      }
      Edge.holds("Promise 28: all 40", "sheet 0 " + bits + " 40 \n sheet 3 " + bits + " 40 \n write 0 0 5 \n write 0 39 6 \n copy 0 0 3 0 40 = 40"
          + "\n write 3 39 0 = 6 \n write 3 0 0 = 5 \n copy 0 0 3 0 41 = BEYOND \n copy 0 1 3 0 40 = BEYOND \n copy 0 0 3 1 40 = BEYOND");
    }
  }

  private static String two(int bits) {
    StringBuilder run = new StringBuilder("sheet 0 " + bits + " 5 \n sheet 1 " + bits + " 3 \n");
    for (int i = 0; i < 8; i++) {
      run.append("write ").append(i / 5).append(' ').append(i % 5).append(' ').append(i + 1).append('\n');
    }
    return run.toString();
  }

  /** Rows: from, to, n of a copy within sheet 0 (1 2 3 4 5), and the sheet then. */
  private static void copyWithin() {
    int[][] rows = {
      {0, 1, 4, 1, 1, 2, 3, 4}, {1, 0, 4, 2, 3, 4, 5, 5}, {0, 0, 5, 1, 2, 3, 4, 5}, {0, 2, 3, 1, 2, 1, 2, 3}, {2, 0, 3, 3, 4, 5, 4, 5},
      {0, 4, 1, 1, 2, 3, 4, 1}, {4, 0, 1, 5, 2, 3, 4, 5}, {5, 5, 0, 1, 2, 3, 4, 5}
    };
    for (int bits : BITS) {
      for (int[] r : rows) {
        Edge.holds("Promise 28: as they all were", two(bits) + "copy 0 " + r[0] + " 0 " + r[1] + " " + r[2] + " = " + r[2] + "\n write 0 0 0 = " + r[3]
            + "\n write 0 1 0 = " + r[4] + "\n write 0 2 0 = " + r[5] + "\n write 0 3 0 = " + r[6] + "\n write 0 4 0 = " + r[7]);
      }
    }
  }

  private static void copyFindings() {
    Edge.holds("Promise 28: BEYOND: no such sheet (either), ahead of MISSING", SCENE + """
        copy -1 0 0 0 1 = BEYOND
        copy 4 0 0 0 1 = BEYOND
        copy 0 0 -1 0 1 = BEYOND
        copy 0 0 4 0 1 = BEYOND
        copy MIN 0 MAX 0 0 = BEYOND
        copy 3 0 4 0 1 = BEYOND
        copy 4 0 3 0 1 = BEYOND
        copy 3 -1 -1 -1 -1 = BEYOND
        """);
    Edge.holds("Promise 28: MISSING: one is, ahead of KIND and BEYOND", SCENE + """
        copy 3 0 0 0 1 = MISSING
        copy 0 0 3 0 1 = MISSING
        copy 3 0 3 0 0 = MISSING
        copy 3 -1 0 -1 -1 = MISSING
        copy 0 99 3 99 99 = MISSING
        """);
    Edge.holds("Promise 28: KIND: they are not of as many bits, ahead of BEYOND", SCENE + """
        copy 0 0 2 0 1 = KIND
        copy 2 0 0 0 1 = KIND
        copy 0 0 2 0 0 = KIND
        copy 0 -1 2 0 1 = KIND
        copy 2 0 0 0 99 = KIND
        sheet 3 64 4 = 4
        copy 0 0 3 0 1 = KIND
        copy 3 0 2 0 1 = KIND
        sheet 3 8 4 = 4
        copy 3 0 2 0 1 = 1
        """);
    Edge.holds("Promise 28: BEYOND: one has not so many, or from, to or n is below 0", SCENE + """
        copy 0 0 1 0 2 = 2
        copy 0 0 1 0 3 = BEYOND
        copy 0 2 1 0 2 = 2
        copy 0 3 1 0 2 = BEYOND
        copy 0 0 1 1 1 = 1
        copy 0 0 1 1 2 = BEYOND
        copy 1 0 0 0 3 = BEYOND
        copy 0 4 1 0 0 = 0
        copy 0 5 1 0 0 = BEYOND
        copy 0 0 1 2 0 = 0
        copy 0 0 1 3 0 = BEYOND
        copy 0 -1 1 0 1 = BEYOND
        copy 0 0 1 -1 1 = BEYOND
        copy 0 0 1 0 -1 = BEYOND
        copy 0 0 0 -1 0 = BEYOND
        copy 0 -1 0 0 0 = BEYOND
        copy 0 2 1 2 -1 = BEYOND
        copy 0 MAX 1 0 1 = BEYOND
        copy 0 0 1 MAX 1 = BEYOND
        copy 0 1 1 1 MAX = BEYOND
        copy 0 MAX 1 MAX MAX = BEYOND
        copy 0 MIN 1 MIN MIN = BEYOND
        copy 0 MIN 1 0 MAX = BEYOND
        """);
  }

  private static void lays() {
    Edge.range("Promise 29: BEYOND: no such sheet", "sheet 0 8 1 \n sheet 1 8 1 \n sheet 2 8 1 \n sheet 3 8 1", "lays *", 0, 3);
    Edge.holds("Promise 29: MISSING", SCENE + "lays 3 = MISSING \n lays 4 = BEYOND \n lays -1 = BEYOND \n sheet 0 0 0 \n lays 0 = MISSING");
    Edge.holds("Promise 29: how many came: none, one, eight", "sheet 0 8 0 \n lays 0 = 0 \n 8x garment 0 \n lays 0 = 0 \n sheet 0 8 8 \n lays 0 = 0"
        + "\n write 0 7 50 \n lays 0 = 1 \n of 7 1 = 50 \n of 6 1 = 100 \n write 0 0 60 \n lays 0 = 2 \n of 0 1 = 60",
        "8x garment 0 \n sheet 1 16 40 \n" + written(1, 9, 30) + "lays 1 = 8 \n of 0 1 = 30 \n of 7 1 = 37 \n count 0 = 8",
        "7x garment 0 \n sheet 1 64 8 \n" + written(1, 8, 30) + "lays 1 = 7 \n of 6 1 = 36 \n count 0 = 7",
        "sheet 1 64 8 \n" + written(1, 8, 30) + "lays 1 = 0 \n count 0 = 0");
    Edge.holds("Promise 29: LONG alone, of what is WET, too", SCENE + """
        lays 0 = 2
        of 0 1 = 11
        of 0 2 = 86
        of 0 4 = 3
        of 0 5 = 9
        of 1 1 = 22
        lays 1 = 0
        lays 2 = 0
        """);
  }

  /** Writes n numbers: least, least + 1, .. */
  private static String written(int s, int n, int least) {
    StringBuilder run = new StringBuilder();
    for (int i = 0; i < Math.min(n, 8); i++) {
      run.append("write ").append(s).append(' ').append(i).append(' ').append(least + i).append('\n');
    }
    return run.toString();
  }

  private static void laysLeftOut() {
    long[][] rows = {
      {8, 9, 0}, {8, 10, 1}, {8, 11, 1}, {8, 127, 1}, {8, -10, 0}, {16, 9, 0}, {16, 10, 1}, {16, 199, 1}, {16, 200, 1}, {16, 201, 0},
      {64, 9, 0}, {64, 10, 1}, {64, 200, 1}, {64, 201, 0}, {64, (1L << 32) + 50, 0}, {64, (1L << 40) + 50, 0}, {64, -50, 0},
      {64, Long.MIN_VALUE, 0}, {64, Long.MAX_VALUE, 0}, {64, Long.MIN_VALUE + 50, 0}
    };
    for (long[] r : rows) {
      Edge.holds("Promise 29: those that aren't 10 to 200 are left out", "garment 0 \n garment 0 \n sheet 0 " + r[0] + " 2 \n write 0 0 " + r[1]
          + "\n write 0 1 77 \n lays 0 = " + (1 + r[2]) + "\n of 0 1 = " + (r[2] == 1 ? r[1] : 100) + "\n of 1 1 = 77");
    }
    // the choice that is told in writeLowestBits
    Edge.holds("Promise 29: 128 to 200 of 8 bits are below 0", "garment 0 \n sheet 0 8 1 \n write 0 0 128 \n lays 0 = 0 \n write 0 0 200 \n lays 0 = 0");
  }

  private static void book() {
    String jumper = "garment 0 \n garment 4 \n set 1 1 120 \n machine 0 60 \n machine 1 1 \n";
    for (int bits : BITS) {
      Edge.holds("Promise 30: as many as it has numbers: none, one, two, 40", jumper + "sheet 2 " + bits + " 0 \n book 2 1 = 0 \n sheet 2 " + bits
          + " 1 \n book 2 1 = 1 \n write 2 0 0 = 120 \n sheet 2 " + bits + " 2 \n book 2 1 = 2 \n write 2 0 0 = 120 \n write 2 1 0 = 96",
          jumper + "sheet 2 " + bits + " 40 \n book 2 1 = 40 \n write 2 2 0 = 77 \n write 2 38 0 = 10 \n write 2 39 0 = 10",
          "garment 2 \n set 0 1 127 \n machine 0 20 \n sheet 2 " + bits + " 40 \n book 2 0 = 40 \n write 2 26 0 = 101 \n write 2 27 0 = 100"
          + "\n write 2 28 0 = 99 \n write 2 39 0 = 99");
    }
    Edge.holds("Promise 30: AGAIN, one that is WET and DRAWN, too, which changes nothing of it", SCENE + """
        book 0 0 = 4
        write 0 0 0 = 99
        write 0 1 0 = 90
        write 0 2 0 = 81
        write 0 3 0 = 73
        book 1 1 = 2
        write 1 0 0 = 50
        write 1 1 0 = 49
        of 0 1 = 99
        of 0 5 = 9
        """);
  }

  private static void bookInFewBits() {
    Edge.holds("Promise 30: comes to a sheet, with its lowest bits", "garment 0 \n set 0 1 127 \n sheet 0 8 1 \n book 0 0 = 1 \n write 0 0 0 = 127",
        "garment 0 \n set 0 1 128 \n sheet 0 8 1 \n book 0 0 = 1 \n write 0 0 0 = -128",
        "garment 0 \n set 0 1 200 \n sheet 0 8 1 \n book 0 0 = 1 \n write 0 0 0 = -56",
        "garment 0 \n set 0 1 200 \n sheet 0 16 1 \n book 0 0 = 1 \n write 0 0 0 = 200",
        "garment 0 \n set 0 1 200 \n sheet 0 64 1 \n book 0 0 = 1 \n write 0 0 0 = 200");
  }

  /** Rows: how many numbers, the second, the third, how many pairs are due; one of 100, towels or not. */
  private static void readPairs() {
    int[][] rows = {
      {0, 0, 0, 456, 456}, {1, 0, 0, 456, 456}, {2, 100, 0, 161, 161}, {2, 99, 0, 44, 42}, {2, 98, 0, 44, 44}, {2, 50, 0, 35, 37},
      {2, 73, 0, 4, 2}, {2, 72, 0, 0, 2}, {2, 46, 0, 0, 2}, {2, 45, 0, 0, 0}, {2, 101, 0, 0, 0}, {3, 90, 81, 4, 4}, {3, 90, 82, 0, 0},
      {3, 50, 25, 35, 37}, {3, 50, 26, 0, 0}
    };
    for (int kind = 0; kind <= 5; kind++) {
      for (int[] r : rows) {
        StringBuilder run = new StringBuilder("garment " + kind + "\n sheet 1 16 " + r[0]);
        int[] numbers = {100, r[1], r[2]};
        for (int i = 0; i < r[0]; i++) {
          run.append("\n write 1 ").append(i).append(' ').append(numbers[i]);
        }
        Edge.holds("Promise 31: how many pairs of a KIND and DEGREES (20 to 95) make it just so; none to all",
            run + "\n read 1 0 = " + r[3] + "\n machine 1 1 \n machine 0 95 \n read 1 0 = " + r[4]);
      }
    }
  }

  private static void readNumbers() {
    Edge.holds("Promise 31: just so, the first number, too", "garment 0 \n sheet 1 8 1 \n write 1 0 100 \n read 1 0 = 456 \n write 1 0 99 \n read 1 0 = 0"
        + "\n write 1 0 101 \n read 1 0 = 0 \n write 1 0 356 \n read 1 0 = 456",
        "garment 0 \n sheet 1 64 1 \n write 1 0 4294967396 \n read 1 0 = 0 \n write 1 0 100 \n read 1 0 = 456",
        "garment 0 \n sheet 1 8 40 \n machine 0 95 \n book 1 0 \n read 1 0 = 161 \n write 1 39 99 \n read 1 0 = 0");
    Edge.holds("Promise 31: 10 at least, where kinds are alike: at 10 nothing shrinks", "garment 3 \n set 0 1 10 \n sheet 1 8 40 \n book 1 0 = 40 \n read 1 0 = 456");
    // the choice that is told in EdgeSheetsTest.writeLowestBits
    Edge.holds("Promise 31: numbers of 8 bits to 127", "garment 0 \n set 0 1 127 \n sheet 1 8 1 \n book 1 0 \n read 1 0 = 456",
        "garment 0 \n set 0 1 128 \n sheet 1 8 1 \n book 1 0 \n read 1 0 = 0", "garment 0 \n set 0 1 128 \n sheet 1 16 1 \n book 1 0 \n read 1 0 = 456");
  }

  private static void bookAndReadFindings() {
    for (String call : new String[] {"book", "read"}) {
      String sentence = "Promises 30 and 31: BEYOND: no such sheet. MISSING. BEYOND: garment; " + call;
      Edge.range(sentence, "garment 0 \n sheet 0 8 1 \n sheet 1 8 1 \n sheet 2 8 1 \n sheet 3 8 1", call + " * 0", 0, 3);
      Edge.range(sentence, SCENE, call + " 0 *", 0, 1);
      Edge.range(sentence, "8x garment 0 \n sheet 3 64 40", call + " 3 *", 0, 7);
      Edge.holds(sentence, SCENE + call + " 4 0 = BEYOND \n" + call + " -1 9 = BEYOND \n" + call + " 3 0 = MISSING \n" + call + " 3 -1 = MISSING \n"
          + call + " 3 2 = MISSING \n" + call + " 0 2 = BEYOND", "sheet 0 8 0 \n" + call + " 0 0 = BEYOND \n " + call + " 1 0 = MISSING");
    }
  }
}
