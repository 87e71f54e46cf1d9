/** The boundaries of promises 26 to 31: sheets. */
public final class EdgeSheetsTest {
  private static final int[] BITS = {8, 16, 64};
  /** Sheets 0 and 1 are of 16 bits, 2 of 8; 3 is MISSING; garments 0 and 1. */
  private static final String SCENE = """
      machine 0 60
      garment 4
      garment 2
      set 1 1 50
      wash 0
      draw 0 9
      person 50 50
      image
      sheet 0 16 4
      write 0 0 11
      write 0 1 22
      write 0 2 33
      write 0 3 44
      sheet 1 16 2
      write 1 0 -5
      sheet 2 8 4
      write 2 3 7
      type 'wool'
      """;
  private static final String FOUR_SHEETS = "sheet 0 8 1 | sheet 1 8 1 | sheet 2 8 1 | sheet 3 8 1";
  private static final String NINE_NUMBERS = """
      write 1 0 30
      write 1 1 31
      write 1 2 32
      write 1 3 33
      write 1 4 34
      write 1 5 35
      write 1 6 36
      write 1 7 37
      write 1 8 38
      """;

  public static void main(String[] args) {
    sheet();
    sheetFindings();
    writeNumbers();
    writeLowestBits();
    copyRuns();
    copyWithin();
    copyFindings();
    lays();
    laysLeftOut();
    book();
    bookInFewBits();
    readPairs();
    readNumbers();
    bookAndReadFindings();
    Due.end();
  }

  private static void sheet() {
    for (int s = 0; s <= 3; s++) {
      for (int bits : BITS) {
        Edge.holds("Promise 26: A sheet has n numbers, all 0: n", SCENE + Edge.run("""
            sheet $s $bits 0 = 0
            write $s 0 1 = BEYOND
            sheet $s $bits 1 = 1
            write $s 0 9 = 0
            write $s 1 1 = BEYOND
            sheet $s $bits 40 = 40
            write $s 0 1 = 0
            write $s 39 1 = 0
            write $s 40 1 = BEYOND
            sheet $s $bits 40 = 40
            write $s 39 1 = 0
            """, "$s", s, "$bits", bits));
      }
      Edge.holds("Promise 26: bits 0: it is MISSING: 0", SCENE + Edge.run("""
          sheet $s 8 3 = 3
          lays $s = 0
          sheet $s 0 1 = 0
          lays $s = MISSING
          sheet $s 0 0 = 0
          sheet $s 0 40 = 0
          sheet $s 16 2 = 2
          write $s 1 0 = 0
          """, "$s", s));
    }
  }

  private static void sheetFindings() {
    Edge.range("Promise 26: BEYOND: no such sheet", SCENE, "sheet * 8 1", 0, 3);
    for (int bits : new int[] {Due.MIN, -64, -16, -8, -1, 1, 7, 9, 15, 17, 24, 32, 63, 65, 128, Due.MAX}) {
      Edge.holds("Promise 26: BEYOND: other bits",
          SCENE + Edge.run("sheet 0 $bits 1 = BEYOND | sheet 3 $bits 0 = BEYOND", "$bits", bits));
    }
    for (int bits : new int[] {0, 8, 16, 64}) {
      Edge.holds("Promise 26: SIZE: n is below 0. BEYOND: n is above 40 (also with bits 0)", SCENE + Edge.run("""
          sheet 0 $bits -1 = SIZE
          sheet 0 $bits MIN = SIZE
          sheet 0 $bits 41 = BEYOND
          sheet 0 $bits MAX = BEYOND
          sheet 0 $bits 40 = may
          sheet 0 $bits 0 = 0
          """, "$bits", bits));
    }
    Edge.holds("Promise 26: BEYOND of sheet and bits is asked ahead of SIZE", SCENE + """
        sheet 4 8 -1 = BEYOND
        sheet -1 0 -1 = BEYOND
        sheet 0 7 -1 = BEYOND
        sheet 0 32 MIN = BEYOND
        sheet 4 7 -1 = BEYOND
        sheet 3 8 -1 = SIZE
        """);
  }

  private static void writeNumbers() {
    Edge.range("Promise 27: number i of 4", SCENE, "write 0 * 5", 0, 3);
    Edge.range("Promise 27: number i of 40", "sheet 1 64 40", "write 1 * 5", 0, 39);
    Edge.range("Promise 27: number i of 1", "sheet 1 8 1", "write 1 * 5", 0, 0);
    Edge.range("Promise 27: BEYOND: no such sheet", "sheet 0 8 1 | sheet 3 8 1 | sheet 1 8 0", "write * 0 5", 0, 0);
    Edge.holds("Promise 27: no number at all", "sheet 1 8 0 | write 1 0 5 = BEYOND | write 1 -1 5 = BEYOND");
    Edge.holds("Promise 27: what it was", SCENE + """
        write 0 3 0 = 44
        write 0 3 5 = 0
        write 0 3 6 = 5
        write 0 0 1 = 11
        write 2 3 9 = 7
        write 1 0 9 = -5
        """);
    Edge.holds("Promise 27: BEYOND: no such sheet, ahead of all; MISSING ahead of BEYOND: no such number", SCENE + """
        write -1 0 5 = BEYOND
        write 4 0 5 = BEYOND
        write 4 -1 5 = BEYOND
        write 3 0 5 = MISSING
        write 3 -1 5 = MISSING
        write 3 40 5 = MISSING
        write 3 MAX 5 = MISSING
        write 0 4 5 = BEYOND
        sheet 0 0 0 = 0
        write 0 0 5 = MISSING
        """);
  }

  /** Numbers of few bits are read as signed, as those of 64 bits are; the document only says "its lowest bits". */
  private static void writeLowestBits() {
    long[][] rows = {
      {8, 0, 0}, {8, 1, 1}, {8, 126, 126}, {8, 127, 127}, {8, 128, -128}, {8, 129, -127}, {8, 254, -2}, {8, 255, -1},
      {8, 256, 0}, {8, 257, 1}, {8, -1, -1}, {8, -127, -127}, {8, -128, -128}, {8, -129, 127}, {8, -256, 0},
      {8, Long.MAX_VALUE, -1}, {8, Long.MIN_VALUE, 0}, {16, 200, 200}, {16, 32766, 32766}, {16, 32767, 32767},
      {16, 32768, -32768}, {16, 65535, -1}, {16, 65536, 0}, {16, 65537, 1}, {16, -32768, -32768}, {16, -32769, 32767},
      {16, Long.MAX_VALUE, -1}, {16, Long.MIN_VALUE, 0}, {64, 1L << 31, 1L << 31}, {64, 1L << 32, 1L << 32},
      {64, Long.MAX_VALUE, Long.MAX_VALUE}, {64, Long.MIN_VALUE, Long.MIN_VALUE}, {64, -1, -1}
    };
    for (long[] r : rows) {
      Edge.holds("Promise 27: becomes v (its lowest bits)", Edge.run("""
          sheet 1 $bits 3
          write 1 1 $v = 0
          write 1 1 0 = $then
          write 1 0 0 = 0
          write 1 2 0 = 0
          """, "$bits", r[0], "$v", r[1], "$then", r[2]));
    }
    Edge.holds("Promise 27: a number that looks like a finding is none", """
        sheet 1 64 2
        write 1 0 -1000000001 = 0
        write 1 0 -1000000007 = -1000000001
        write 1 0 0 = -1000000007
        """);
  }

  /** Rows: from, to, n of a copy from sheet 0 (1 2 3 4 5) to sheet 1 (6 7 8), and sheet 1 then. */
  private static void copyRuns() {
    int[][] rows = {
      {0, 0, 0, 6, 7, 8}, {5, 3, 0, 6, 7, 8}, {0, 0, 1, 1, 7, 8}, {4, 2, 1, 6, 7, 5}, {0, 0, 3, 1, 2, 3}, {2, 0, 3, 3, 4, 5},
      {3, 1, 2, 6, 4, 5}, {4, 0, 1, 5, 7, 8}, {0, 3, 0, 6, 7, 8}, {5, 0, 0, 6, 7, 8}
    };
    for (int bits : BITS) {
      for (int[] r : rows) {
        Edge.holds("Promise 28: n numbers of a sheet from one on come to another one from one on: n", two(bits)
            + Edge.run("copy 0 $from 1 $to $n = $n | ", "$from", r[0], "$to", r[1], "$n", r[2])
            + Edge.run("write 1 0 0 = $a | write 1 1 0 = $b | write 1 2 0 = $c", "$a", r[3], "$b", r[4], "$c", r[5]));
      }
      Edge.holds("Promise 28: all 40", Edge.run("""
          sheet 0 $bits 40
          sheet 3 $bits 40
          write 0 0 5
          write 0 39 6
          copy 0 0 3 0 40 = 40
          write 3 39 0 = 6
          write 3 0 0 = 5
          copy 0 0 3 0 41 = BEYOND
          copy 0 1 3 0 40 = BEYOND
          copy 0 0 3 1 40 = BEYOND
          """, "$bits", bits));
    }
  }

  private static String two(int bits) {
    StringBuilder run = new StringBuilder(Edge.run("sheet 0 $bits 5 | sheet 1 $bits 3 | ", "$bits", bits));
    for (int i = 0; i < 8; i++) {
      run.append("write ").append(i / 5).append(' ').append(i % 5).append(' ').append(i + 1).append(" | ");
    }
    return run.toString();
  }

  /** Rows: from, to, n of a copy within sheet 0 (1 2 3 4 5), and the sheet then. */
  private static void copyWithin() {
    int[][] rows = {
      {0, 1, 4, 1, 1, 2, 3, 4}, {1, 0, 4, 2, 3, 4, 5, 5}, {0, 0, 5, 1, 2, 3, 4, 5}, {0, 2, 3, 1, 2, 1, 2, 3},
      {2, 0, 3, 3, 4, 5, 4, 5}, {0, 4, 1, 1, 2, 3, 4, 1}, {4, 0, 1, 5, 2, 3, 4, 5}, {5, 5, 0, 1, 2, 3, 4, 5}
    };
    for (int bits : BITS) {
      for (int[] r : rows) {
        StringBuilder run = new StringBuilder(two(bits));
        run.append(Edge.run("copy 0 $from 0 $to $n = $n", "$from", r[0], "$to", r[1], "$n", r[2]));
        for (int i = 0; i < 5; i++) {
          run.append(Edge.run(" | write 0 $i 0 = $v", "$i", i, "$v", r[3 + i]));
        }
        Edge.holds("Promise 28: as they all were", run.toString());
      }
    }
  }

  private static void copyFindings() {
    Edge.holds("Promise 28: BEYOND: no such sheet (either), ahead of MISSING", SCENE + """
        copy -1 0 0 0 1 = BEYOND
        copy 4 0 0 0 1 = BEYOND
        copy 0 0 -1 0 1 = BEYOND
        copy 0 0 4 0 1 = BEYOND
        copy MIN 0 MAX 0 0 = BEYOND
        copy 3 0 4 0 1 = BEYOND
        copy 4 0 3 0 1 = BEYOND
        copy 3 -1 -1 -1 -1 = BEYOND
        """);
    Edge.holds("Promise 28: MISSING: one is, ahead of KIND and BEYOND", SCENE + """
        copy 3 0 0 0 1 = MISSING
        copy 0 0 3 0 1 = MISSING
        copy 3 0 3 0 0 = MISSING
        copy 3 -1 0 -1 -1 = MISSING
        copy 0 99 3 99 99 = MISSING
        """);
    Edge.holds("Promise 28: KIND: they are not of as many bits, ahead of BEYOND", SCENE + """
        copy 0 0 2 0 1 = KIND
        copy 2 0 0 0 1 = KIND
        copy 0 0 2 0 0 = KIND
        copy 0 -1 2 0 1 = KIND
        copy 2 0 0 0 99 = KIND
        sheet 3 64 4 = 4
        copy 0 0 3 0 1 = KIND
        copy 3 0 2 0 1 = KIND
        sheet 3 8 4 = 4
        copy 3 0 2 0 1 = 1
        """);
    Edge.holds("Promise 28: BEYOND: one has not so many, or from, to or n is below 0", SCENE + """
        copy 0 0 1 0 2 = 2
        copy 0 0 1 0 3 = BEYOND
        copy 0 2 1 0 2 = 2
        copy 0 3 1 0 2 = BEYOND
        copy 0 0 1 1 1 = 1
        copy 0 0 1 1 2 = BEYOND
        copy 1 0 0 0 3 = BEYOND
        copy 0 4 1 0 0 = 0
        copy 0 5 1 0 0 = BEYOND
        copy 0 0 1 2 0 = 0
        copy 0 0 1 3 0 = BEYOND
        copy 0 -1 1 0 1 = BEYOND
        copy 0 0 1 -1 1 = BEYOND
        copy 0 0 1 0 -1 = BEYOND
        copy 0 0 0 -1 0 = BEYOND
        copy 0 -1 0 0 0 = BEYOND
        copy 0 2 1 2 -1 = BEYOND
        copy 0 MAX 1 0 1 = BEYOND
        copy 0 0 1 MAX 1 = BEYOND
        copy 0 1 1 1 MAX = BEYOND
        copy 0 MAX 1 MAX MAX = BEYOND
        copy 0 MIN 1 MIN MIN = BEYOND
        copy 0 MIN 1 0 MAX = BEYOND
        """);
  }

  private static void lays() {
    Edge.range("Promise 29: BEYOND: no such sheet", FOUR_SHEETS, "lays *", 0, 3);
    Edge.holds("Promise 29: MISSING", SCENE + "lays 3 = MISSING | lays 4 = BEYOND | sheet 0 0 0 | lays 0 = MISSING");
    Edge.holds("Promise 29: how many came: none, one, two", """
        sheet 0 8 0
        lays 0 = 0
        8x garment 0
        lays 0 = 0
        sheet 0 8 8
        lays 0 = 0
        write 0 7 50
        lays 0 = 1
        of 7 1 = 50
        of 6 1 = 100
        write 0 0 60
        lays 0 = 2
        of 0 1 = 60
        """);
    Edge.holds("Promise 29: those that stand for none are left out: 8 garments, 7, none",
        "8x garment 0 | sheet 1 16 40 | " + NINE_NUMBERS + "lays 1 = 8 | of 0 1 = 30 | of 7 1 = 37 | count 0 = 8",
        "7x garment 0 | sheet 1 64 9 | " + NINE_NUMBERS + "lays 1 = 7 | of 6 1 = 36 | count 0 = 7",
        "sheet 1 64 9 | " + NINE_NUMBERS + "lays 1 = 0 | count 0 = 0");
    Edge.holds("Promise 29: LONG alone, of what is WET, too", SCENE + """
        lays 0 = 2
        of 0 1 = 11
        of 0 2 = 86
        of 0 4 = 3
        of 0 5 = 9
        of 1 1 = 22
        lays 1 = 0
        lays 2 = 0
        """);
  }

  private static void laysLeftOut() {
    long[][] rows = {
      {8, 9, 0}, {8, 10, 1}, {8, 11, 1}, {8, 127, 1}, {8, -10, 0}, {16, 9, 0}, {16, 10, 1}, {16, 199, 1}, {16, 200, 1},
      {16, 201, 0}, {64, 9, 0}, {64, 10, 1}, {64, 200, 1}, {64, 201, 0}, {64, (1L << 32) + 50, 0}, {64, (1L << 40) + 50, 0},
      {64, -50, 0}, {64, Long.MIN_VALUE, 0}, {64, Long.MAX_VALUE, 0}, {64, Long.MIN_VALUE + 50, 0}
    };
    for (long[] r : rows) {
      Edge.holds("Promise 29: those that aren't 10 to 200 are left out", Edge.run("""
          garment 0
          garment 0
          sheet 0 $bits 2
          write 0 0 $v
          write 0 1 77
          lays 0 = $came
          of 0 1 = $long
          of 1 1 = 77
          """, "$bits", r[0], "$v", r[1], "$came", 1 + r[2], "$long", r[2] == 1 ? r[1] : 100));
    }
    // the choice that is told at writeLowestBits
    Edge.holds("Promise 29: 128 to 200 of 8 bits are below 0",
        "garment 0 | sheet 0 8 1 | write 0 0 128 | lays 0 = 0 | write 0 0 200 | lays 0 = 0");
  }

  private static void book() {
    for (int bits : BITS) {
      Edge.holds("Promise 30: as many as it has numbers: none, one, two, 40", Edge.run("""
          garment 0
          garment 4
          set 1 1 120
          machine 0 60
          machine 1 1
          sheet 2 $bits 0
          book 2 1 = 0
          sheet 2 $bits 1
          book 2 1 = 1
          write 2 0 0 = 120
          sheet 2 $bits 2
          book 2 1 = 2
          write 2 0 0 = 120
          write 2 1 0 = 96
          sheet 2 $bits 40
          book 2 1 = 40
          write 2 2 0 = 77
          write 2 38 0 = 10
          write 2 39 0 = 10
          """, "$bits", bits), Edge.run("""
          garment 2
          set 0 1 127
          machine 0 20
          sheet 2 $bits 40
          book 2 0 = 40
          write 2 26 0 = 101
          write 2 27 0 = 100
          write 2 28 0 = 99
          write 2 39 0 = 99
          """, "$bits", bits));
    }
    Edge.holds("Promise 30: AGAIN, one that is WET and DRAWN, too, which changes nothing of it", SCENE + """
        book 0 0 = 4
        write 0 0 0 = 99
        write 0 1 0 = 90
        write 0 2 0 = 81
        write 0 3 0 = 73
        book 1 1 = 2
        write 1 0 0 = 50
        write 1 1 0 = 49
        of 0 1 = 99
        of 0 5 = 9
        """);
  }

  /** Rows: bits, LONG, the number of the sheet then. */
  private static void bookInFewBits() {
    int[][] rows = {{8, 127, 127}, {8, 128, -128}, {8, 200, -56}, {16, 128, 128}, {16, 200, 200}, {64, 200, 200}};
    for (int[] r : rows) {
      Edge.holds("Promise 30: comes to a sheet, with its lowest bits",
          Edge.run("garment 0 | set 0 1 $long | sheet 0 $bits 1 | book 0 0 = 1 | write 0 0 0 = $then",
              "$bits", r[0], "$long", r[1], "$then", r[2]));
    }
  }

  /** Rows: how many numbers, the second, the third, how many pairs are due; one of 100, towels or not. */
  private static void readPairs() {
    int[][] rows = {
      {0, 0, 0, 456, 456}, {1, 0, 0, 456, 456}, {2, 100, 0, 161, 161}, {2, 99, 0, 44, 42}, {2, 98, 0, 44, 44},
      {2, 50, 0, 35, 37}, {2, 73, 0, 4, 2}, {2, 72, 0, 0, 2}, {2, 46, 0, 0, 2}, {2, 45, 0, 0, 0}, {2, 101, 0, 0, 0},
      {3, 90, 81, 4, 4}, {3, 90, 82, 0, 0}, {3, 50, 25, 35, 37}, {3, 50, 26, 0, 0}
    };
    for (int kind = 0; kind <= 5; kind++) {
      for (int[] r : rows) {
        StringBuilder run = new StringBuilder("garment " + kind + " | sheet 1 16 " + r[0]);
        int[] numbers = {100, r[1], r[2]};
        for (int i = 0; i < r[0]; i++) {
          run.append(" | write 1 ").append(i).append(' ').append(numbers[i]);
        }
        Edge.holds("Promise 31: how many pairs of a KIND and DEGREES (20 to 95) make it just so; none to all",
            run + " | read 1 0 = " + r[3] + " | machine 1 1 | machine 0 95 | read 1 0 = " + r[4]);
      }
    }
  }

  private static void readNumbers() {
    Edge.holds("Promise 31: just so, the first number, too", """
        garment 0
        sheet 1 8 1
        write 1 0 100
        read 1 0 = 456
        write 1 0 99
        read 1 0 = 0
        write 1 0 101
        read 1 0 = 0
        write 1 0 356
        read 1 0 = 456
        """, """
        garment 0
        sheet 1 64 1
        write 1 0 4294967396
        read 1 0 = 0
        write 1 0 100
        read 1 0 = 456
        """);
    Edge.holds("Promise 31: just so, the 40th number, too",
        "garment 0 | sheet 1 8 40 | machine 0 95 | book 1 0 | read 1 0 = 161 | write 1 39 99 | read 1 0 = 0");
    Edge.holds("Promise 31: at 10 nothing shrinks, as any KIND",
        "garment 3 | set 0 1 10 | sheet 1 8 40 | book 1 0 = 40 | read 1 0 = 456");
    // the choice that is told at writeLowestBits
    Edge.holds("Promise 31: numbers of 8 bits to 127", "garment 0 | set 0 1 127 | sheet 1 8 1 | book 1 0 | read 1 0 = 456",
        "garment 0 | set 0 1 128 | sheet 1 8 1 | book 1 0 | read 1 0 = 0",
        "garment 0 | set 0 1 128 | sheet 1 16 1 | book 1 0 | read 1 0 = 456");
  }

  private static void bookAndReadFindings() {
    for (String call : new String[] {"book", "read"}) {
      String sentence = "Promises 30 and 31: BEYOND: no such sheet. MISSING. BEYOND: garment; " + call;
      Edge.range(sentence, "garment 0 | " + FOUR_SHEETS, call + " * 0", 0, 3);
      Edge.range(sentence, SCENE, call + " 0 *", 0, 1);
      Edge.range(sentence, "8x garment 0 | sheet 3 64 40", call + " 3 *", 0, 7);
      Edge.holds(sentence + ", in that order", SCENE + Edge.run("""
          $call 4 0 = BEYOND
          $call -1 9 = BEYOND
          $call 3 0 = MISSING
          $call 3 -1 = MISSING
          $call 3 2 = MISSING
          $call 0 2 = BEYOND
          """, "$call", call), Edge.run("sheet 0 8 0 | $call 0 0 = BEYOND | $call 1 0 = MISSING", "$call", call));
    }
  }
}
