/** The boundaries that "Terms" names (the text of a basket is in EdgeTextTest). */
public final class EdgeTermsTest {
  public static void main(String[] args) {
    findings();
    machine();
    garments();
    shrinks();
    felts();
    bears();
    keeps();
    toWashIsCut();
    toWashIsHeld();
    toWashWetAndDrawn();
    toDrawIsHeld();
    toDrawBears();
    toDrawHoles();
    aDayWet();
    aDayGoesBack();
    people();
    fits();
    aheadAndAgain();
    sheets();
    Due.end();
  }

  private static void findings() {
    FeltedWash x = new FeltedWash();
    x.garment(0);
    Due.is("BEYOND", x.garment(6), -1000000001);
    Due.is("KIND", x.as(0, 1), -1000000003);
    Due.is("NONE", x.undo(), -1000000004);
    Due.is("STATE", x.draw(0, 1), -1000000005);
    Due.is("MISSING", x.lays(0), -1000000006);
    Due.is("SIZE", x.sheet(0, 8, -1), -1000000007);
    Due.is("BEYOND in longs, too", x.write(4, 0, 0), -1000000001L);
    Due.is("MISSING in longs, too", x.write(3, 0, 0), -1000000006L);
    for (int i = 0; i < 7; i++) {
      x.garment(0);
    }
    Due.is("FULL", x.garment(0), -1000000002);
    int[] counted = {2, 1, 1, 1, 1, 2, 1};
    for (int which = 0; which < 7; which++) {
      Due.is("status(" + which + ")", x.status(which), counted[which]);
    }
    Edge.holds("Sets are told by bits: none, the first, the last, all", """
        8x garment 0
        now 3 = 0
        wash 0
        now 3 = 1
        wash 7
        now 3 = 129
        wash 1
        wash 2
        wash 3
        wash 4
        wash 5
        wash 6
        now 3 = 255
        """);
  }

  private static void machine() {
    Edge.holds("DAY: 0 at first", "now 0 = 0 | days 1 = 0 | now 0 = 1");
    // takes more calls than an object is promised for, as no other way leads there
    Edge.holds("DAY: 99999 at most", """
        999x days 100
        now 0 = 99900
        days 98 = 0
        days 2 = STATE
        days 1 = 0
        now 0 = 99999
        days 1 = STATE
        """);
    Edge.holds("DEGREES of the machine (20 to 95; 40 at first)", """
        now 1 = 40
        machine 0 19 = BEYOND
        machine 0 20 = 40
        now 1 = 20
        machine 0 21 = 20
        machine 0 94 = 21
        machine 0 95 = 94
        machine 0 96 = BEYOND
        now 1 = 95
        """);
    Edge.holds("TOWELS in it (1) or not (0; at first)", """
        now 2 = 0
        machine 1 -1 = BEYOND
        machine 1 0 = 0
        machine 1 1 = 0
        now 2 = 1
        machine 1 2 = BEYOND
        machine 1 0 = 1
        now 2 = 0
        """);
  }

  private static void garments() {
    Edge.holds("GARMENTS 0, 1, .. (at most 8)", """
        count 0 = 0
        of 0 0 = BEYOND
        garment 1 = 0
        of 0 0 = 1
        of 1 0 = BEYOND
        garment 1 = 1
        4x garment 1 = 5
        garment 1 = 6
        of 7 0 = BEYOND
        garment 2 = 7
        of 7 0 = 2
        garment 3 = FULL
        of 8 0 = BEYOND
        count 0 = 8
        """);
    for (int k = 0; k <= 5; k++) {
      Edge.holds("each LONG and BROAD (100 at first), THICK (10), WET, DRAWN, HOLES (0 at first)", "garment " + k + " = 0"
          + " | of 0 0 = " + k + " | of 0 1 = 100 | of 0 2 = 100 | of 0 3 = 10 | of 0 4 = 0 | of 0 5 = 0 | of 0 6 = 0");
    }
    Edge.holds("one behind another that was undone is as at first, too", """
        garment 4 = 0
        image = 1
        garment 5 = 1
        set 1 1 11
        set 1 2 12
        set 1 3 13
        set 1 6 14
        wash 1
        draw 1 4
        undo = 1
        garment 0 = 1
        of 1 0 = 0
        of 1 1 = 100
        of 1 2 = 100
        of 1 3 = 10
        of 1 4 = 0
        of 1 5 = 0
        of 1 6 = 0
        """);
    for (int what = 1; what <= 2; what++) {
      String set = " | set 0 " + what + " ";
      Edge.holds("LONG and BROAD (10 to 200)", "garment 0" + set + "9 = BEYOND" + set + "10 = 100" + set + "11 = 10"
          + set + "199 = 11" + set + "200 = 199" + set + "201 = BEYOND" + " | of 0 " + what + " = 200");
    }
    Edge.holds("THICK (1 to 99)", """
        garment 0
        set 0 3 0 = BEYOND
        set 0 3 1 = 10
        set 0 3 2 = 1
        set 0 3 98 = 2
        set 0 3 99 = 98
        set 0 3 100 = BEYOND
        of 0 3 = 99
        """);
    Edge.holds("HOLES (0 at first, held to 9999)", """
        garment 0
        set 0 6 -1 = BEYOND
        set 0 6 0 = 0
        set 0 6 1 = 0
        set 0 6 9998 = 1
        set 0 6 9999 = 9998
        set 0 6 10000 = BEYOND
        of 0 6 = 9999
        """);
  }

  /** Rows: degrees, then what is due of one of a kind at that number (7 SHRINKS, 8 FELTS). */
  private static void byDegrees(String sentence, int kind, int what, int towels, int[][] rows) {
    StringBuilder run = new StringBuilder("garment " + kind + " | machine 1 " + towels);
    for (int[] row : rows) {
      run.append(" | machine 0 ").append(row[0]).append(" | of 0 ").append(what).append(" = ").append(row[1]);
    }
    Edge.holds(sentence + " (towels " + towels + ")", run.toString());
  }

  private static void shrinks() {
    int[][] never = {{20, 0}, {40, 0}, {41, 0}, {60, 0}, {61, 0}, {95, 0}};
    int[][] wool = {{20, 0}, {39, 0}, {40, 0}, {41, 0}, {42, 1}, {43, 1}, {44, 2}, {93, 26}, {94, 27}, {95, 27}};
    int[][] cotton = {{20, 1}, {39, 1}, {40, 2}, {41, 2}, {59, 2}, {60, 3}, {61, 3}, {79, 3}, {80, 4}, {95, 4}};
    int[][] silk = {{20, 0}, {59, 0}, {60, 0}, {61, 50}, {62, 50}, {95, 50}};
    int[][] jumper = {{20, 0}, {39, 0}, {40, 0}, {41, 0}, {42, 2}, {43, 2}, {44, 4}, {93, 52}, {94, 54}, {95, 54}};
    int[][] sock = {{20, 1}, {39, 1}, {40, 2}, {41, 2}, {59, 2}, {60, 4}, {61, 4}, {79, 4}, {80, 5}, {95, 5}};
    for (int towels = 0; towels <= 1; towels++) {
      byDegrees("SHRINKS: GARMENT: 0", 0, 7, towels, never);
      byDegrees("WOOL: half of what d is above 40 (cut; else 0)", 1, 7, towels, wool);
      byDegrees("COTTON: d by 20", 2, 7, towels, cotton);
      byDegrees("SILK: 50, if d is above 60, else 0", 3, 7, towels, silk);
      byDegrees("JUMPER: as WOOL, and that again with TOWELS", 4, 7, towels, towels == 0 ? wool : jumper);
      byDegrees("SOCK: as COTTON, and 1, if d is 60 or more", 5, 7, towels, sock);
    }
  }

  private static void felts() {
    int[][] never = {{20, 0}, {40, 0}, {60, 0}, {61, 0}, {95, 0}};
    int[][] wool = {{20, 0}, {41, 0}, {42, 0}, {45, 0}, {46, 1}, {51, 1}, {52, 2}, {93, 8}, {94, 9}, {95, 9}};
    int[][] jumper = {{20, 0}, {40, 0}, {41, 0}, {42, 1}, {43, 1}, {45, 1}, {46, 2}, {51, 2}, {52, 3}, {93, 9}, {94, 10}};
    int[][] withTowels = {{20, 0}, {40, 0}, {41, 0}, {42, 1}, {43, 1}, {44, 2}, {45, 2}, {46, 3}, {93, 18}, {94, 19}, {95, 19}};
    for (int towels = 0; towels <= 1; towels++) {
      byDegrees("FELTS: GARMENT: 0", 0, 8, towels, never);
      byDegrees("WOOL: s by 3", 1, 8, towels, wool);
      byDegrees("COTTON: as GARMENT", 2, 8, towels, never);
      byDegrees("SILK: as GARMENT", 3, 8, towels, never);
      byDegrees("JUMPER: as WOOL, and 1, if s is above 0", 4, 8, towels, towels == 0 ? jumper : withTowels);
      byDegrees("SOCK: as COTTON, and 2", 5, 8, towels, new int[][] {{20, 2}, {40, 2}, {60, 2}, {95, 2}});
    }
  }

  /** Rows: THICK, then what is due of BEARS. */
  private static void byThick(String sentence, int kind, int[][] rows) {
    StringBuilder run = new StringBuilder("garment " + kind);
    for (int[] row : rows) {
      run.append(" | set 0 3 ").append(row[0]).append(" | of 0 9 = ").append(row[1]);
    }
    Edge.holds(sentence, run.toString());
  }

  private static void bears() {
    byThick("BEARS: GARMENT: 10", 0, new int[][] {{1, 10}, {4, 10}, {99, 10}});
    byThick("WOOL: as GARMENT, and THICK by 4", 1,
        new int[][] {{1, 10}, {3, 10}, {4, 11}, {7, 11}, {8, 12}, {95, 33}, {96, 34}, {99, 34}});
    byThick("COTTON: 5", 2, new int[][] {{1, 5}, {4, 5}, {99, 5}});
    byThick("SILK: as GARMENT, less 7", 3, new int[][] {{1, 3}, {4, 3}, {99, 3}});
    byThick("JUMPER: as WOOL, twice that", 4,
        new int[][] {{1, 20}, {2, 20}, {3, 20}, {4, 22}, {6, 22}, {7, 22}, {8, 24}, {99, 68}});
    byThick("SOCK: as COTTON", 5, new int[][] {{1, 5}, {4, 5}, {99, 5}});
    for (int kind = 0; kind <= 4; kind++) {
      Edge.holds("HOLES don't matter for kind " + kind, "garment " + kind + " | set 0 3 1 | set 0 6 9999 | of 0 9 = "
          + new int[] {10, 10, 5, 3, 20}[kind]);
    }
    Edge.holds("SOCK: and 1 for each HOLE", """
        garment 5
        of 0 9 = 5
        set 0 6 1
        of 0 9 = 6
        set 0 6 2
        of 0 9 = 7
        set 0 6 9999
        of 0 9 = 10004
        """);
  }

  private static void keeps() {
    int[] keeps = {50, 50, 20, 100, 40, 20};
    for (int kind = 0; kind <= 5; kind++) {
      Edge.holds("KEEPS, of each kind", "garment " + kind + " | of 0 10 = " + keeps[kind]);
    }
  }

  /** Rows: what it is before the wash and behind it; LONG and BROAD alike. */
  private static void washed(String sentence, int kind, int degrees, int[][] rows) {
    for (int[] row : rows) {
      Edge.holds(sentence, "garment " + kind + " | machine 0 " + degrees + " | set 0 1 " + row[0] + " | wash 0 = " + row[1]
          + " | of 0 1 = " + row[1] + " | of 0 2 = " + (100 - new int[] {0, 27, 1, 50}[kind]));
      Edge.holds(sentence, "garment " + kind + " | machine 0 " + degrees + " | set 0 2 " + row[0] + " | wash 0 = "
          + (100 - new int[] {0, 27, 1, 50}[kind]) + " | of 0 2 = " + row[1]);
    }
  }

  private static void toWashIsCut() {
    washed("TO WASH: LONG times what it SHRINKS, by 100 (cut), less; BROAD so, too", 2, 20,
        new int[][] {{10, 10}, {99, 99}, {100, 99}, {101, 100}, {199, 198}, {200, 198}});
    washed("TO WASH: LONG times what it SHRINKS, by 100 (cut), less; BROAD so, too", 1, 95,
        new int[][] {{37, 28}, {38, 28}, {100, 73}, {200, 146}});
    washed("TO WASH: what SHRINKS 0 stays", 0, 95, new int[][] {{10, 10}, {200, 200}});
  }

  private static void toWashIsHeld() {
    washed("TO WASH: 10 at least, each", 3, 61, new int[][] {{10, 10}, {17, 10}, {18, 10}, {19, 10}, {20, 10}, {21, 11}});
    washed("TO WASH: 10 at least, each", 1, 95, new int[][] {{10, 10}, {12, 10}, {13, 10}, {14, 11}});
    int[][] sock = {{1, 3}, {96, 98}, {97, 99}, {98, 99}, {99, 99}};
    for (int[] row : sock) {
      Edge.holds("TO WASH: THICK what it FELTS more (99 at most)",
          "garment 5 | set 0 3 " + row[0] + " | wash 0 = 98 | of 0 3 = " + row[1]);
    }
    int[][] jumper = {{1, 20}, {79, 98}, {80, 99}, {81, 99}, {99, 99}};
    for (int[] row : jumper) {
      Edge.holds("TO WASH: THICK what it FELTS more (99 at most)", "garment 4 | machine 0 95 | machine 1 1 | set 0 3 "
          + row[0] + " | wash 0 = 46 | of 0 3 = " + row[1]);
    }
  }

  private static void toWashWetAndDrawn() {
    int[] wetThen = {3, 2, 1, 0, 0};
    for (int days = 0; days <= 4; days++) {
      String passed = days == 0 ? "" : " | days " + days;
      Edge.holds("TO WASH: WET 3, whether it was dry or WET by any days", "garment 0 | of 0 4 = 0 | wash 0 = 100 | of 0 4 = 3"
          + passed + " | of 0 4 = " + wetThen[days] + " | wash 0 = 100 | of 0 4 = 3");
    }
    Edge.holds("TO WASH: DRAWN 0, so that it goes back by nothing", """
        garment 0
        wash 0
        draw 0 11 = 111
        of 0 5 = 11
        of 0 6 = 1
        wash 0 = 111
        of 0 5 = 0
        of 0 6 = 1
        draw 0 10 = 121
        of 0 6 = 1
        wash 0 = 121
        days 3 = 0
        of 0 1 = 121
        """);
  }

  /** Rows: LONG and BROAD before, n, LONG and BROAD then; a GARMENT, which doesn't shrink. */
  private static void toDrawIsHeld() {
    int[][] rows = {
      {100, 100, 1, 101, 100}, {100, 100, 2, 102, 99}, {100, 100, 3, 103, 99}, {100, 100, 49, 149, 76}, {100, 100, 50, 150, 75},
      {198, 100, 1, 199, 100}, {199, 100, 1, 200, 100}, {200, 100, 1, 200, 100}, {149, 100, 50, 199, 75},
      {150, 100, 50, 200, 75}, {151, 100, 50, 200, 75}, {200, 100, 50, 200, 75}, {10, 10, 1, 11, 10}, {10, 10, 2, 12, 10},
      {10, 11, 2, 12, 10}, {10, 12, 2, 12, 11}, {10, 36, 50, 60, 11}, {10, 35, 50, 60, 10}, {10, 34, 50, 60, 10}, {10, 10, 50, 60, 10}
    };
    for (int[] r : rows) {
      Edge.holds("TO DRAW: LONG n more (200 at most), BROAD half of n (cut) less (10 at least), DRAWN n more",
          "garment 0 | set 0 1 " + r[0] + " | set 0 2 " + r[1] + " | wash 0 = " + r[0] + " | draw 0 " + r[2] + " = " + r[3]
          + " | of 0 1 = " + r[3] + " | of 0 2 = " + r[4] + " | of 0 3 = 10 | of 0 4 = 3 | of 0 5 = " + r[2]);
    }
    Edge.holds("TO DRAW: DRAWN n more, though LONG is held, and above 200, too", """
        garment 0
        set 0 1 200
        wash 0
        4x draw 0 50 = 200
        of 0 5 = 200
        draw 0 1 = 200
        of 0 5 = 201
        days 3 = 0
        of 0 1 = 100
        """);
    Edge.holds("TO DRAW one (that is WET): on its last wet day, and not when it is dry", """
        garment 0
        draw 0 1 = STATE
        wash 0
        draw 0 1 = 101
        days 2 = 1
        draw 0 1 = 102
        of 0 4 = 1
        days 1 = 0
        draw 0 1 = STATE
        """);
  }

  /** It bears so much, and one more is a hole; drawn at once, or bit by bit. */
  private static void toDrawBears() {
    int[] bears = {10, 12, 5, 3, 24, 5};
    for (int kind = 0; kind <= 5; kind++) {
      String wet = "garment " + kind + " | machine 0 20 | wash 0 | set 0 3 10 | of 0 9 = " + bears[kind];
      String sentence = "TO DRAW: if DRAWN is above what it BEARS then: HOLES is 1 more; kind " + kind;
      Edge.holds(sentence, wet + " | draw 0 " + (bears[kind] - 1) + " = may | of 0 6 = 0 | draw 0 1 = may | of 0 6 = 0"
          + " | draw 0 1 = may | of 0 6 = 1 | now 4 = 1 | draw 0 1 = may | of 0 6 = 2");
      Edge.holds(sentence, wet + " | draw 0 " + bears[kind] + " = may | of 0 6 = 0 | now 4 = 0");
      Edge.holds(sentence, wet + " | draw 0 " + (bears[kind] + 1) + " = may | of 0 6 = 1");
      Edge.holds(sentence + ": 1, however far above", wet + " | draw 0 50 = may | of 0 6 = 1");
    }
    Edge.holds("TO DRAW: what WOOL BEARS then: THICK 11 or 12", """
        garment 1
        set 0 3 11
        wash 0
        draw 0 12 = 112
        of 0 6 = 0
        draw 0 1 = 113
        of 0 6 = 1
        set 0 3 12
        set 0 6 0
        wash 0
        draw 0 13 = 126
        of 0 6 = 0
        draw 0 1 = 127
        of 0 6 = 1
        """);
  }

  private static void toDrawHoles() {
    Edge.holds("HOLES held to 9999, as it is drawn", """
        garment 0
        set 0 6 9997
        wash 0
        draw 0 11
        of 0 6 = 9998
        draw 0 1 = 112
        of 0 6 = 9999
        draw 0 1 = 113
        of 0 6 = 9999
        """);
    Edge.holds("a SOCK BEARS 1 more for the HOLES that it had", """
        garment 5
        set 0 6 1
        wash 0 = 98
        draw 0 6 = 104
        of 0 6 = 1
        draw 0 1 = 105
        of 0 6 = 2
        of 0 9 = 7
        draw 0 1 = 106
        of 0 6 = 3
        """, """
        garment 5
        set 0 6 9999
        wash 0
        200x draw 0 50 = 200
        of 0 5 = 10000
        of 0 6 = 9999
        draw 0 5
        of 0 6 = 9999
        """);
  }

  private static void aDayWet() {
    Edge.holds("A DAY goes: one that is WET: WET 1 less; if it is 0 then", """
        garment 0
        garment 0
        wash 0
        draw 0 10
        days 1 = 1
        of 0 4 = 2
        of 0 1 = 110
        of 0 5 = 10
        days 1 = 1
        of 0 4 = 1
        of 0 1 = 110
        of 0 5 = 10
        days 1 = 0
        of 0 4 = 0
        of 0 1 = 105
        of 0 5 = 0
        days 1 = 0
        of 0 4 = 0
        of 0 1 = 105
        of 1 4 = 0
        of 1 1 = 100
        now 0 = 4
        """);
    Edge.holds("A DAY goes: GARMENTS by numbers, the first and the last", """
        8x garment 0
        wash 7
        days 1 = 128
        wash 0
        days 1 = 129
        days 1 = 1
        days 1 = 0
        """);
  }

  /** Rows: kind, LONG as it dries, DRAWN, LONG then. */
  private static void aDayGoesBack() {
    int[][] rows = {
      {0, 100, 1, 100}, {0, 100, 2, 99}, {0, 100, 3, 99}, {0, 100, 4, 98}, {1, 100, 3, 99}, {2, 100, 1, 100}, {2, 100, 2, 99},
      {2, 100, 4, 97}, {2, 100, 5, 96}, {3, 100, 1, 100}, {3, 100, 50, 100}, {3, 10, 50, 10}, {4, 100, 1, 100}, {4, 100, 2, 99},
      {4, 100, 4, 98}, {4, 100, 5, 97}, {5, 100, 1, 100}, {5, 100, 2, 99}, {5, 100, 5, 96}, {0, 200, 50, 175},
      {0, 13, 4, 11}, {0, 12, 4, 10}, {0, 11, 4, 10}, {0, 10, 4, 10}, {2, 51, 50, 11}, {2, 50, 50, 10}, {2, 49, 50, 10},
      {5, 10, 50, 10}
    };
    for (int[] r : rows) {
      Edge.holds("A DAY goes: LONG is DRAWN times (100 less what it KEEPS), by 100 (cut), less (10 at least), DRAWN 0",
          "garment " + r[0] + " | wash 0 | days 2 | draw 0 " + r[2] + " | set 0 1 " + r[1] + " | on 0 1 0 = " + r[3]
          + " | days 1 = 0 | of 0 1 = " + r[3] + " | of 0 5 = 0 | of 0 4 = 0");
    }
    Edge.holds("A DAY goes: by the kind that it is then", """
        garment 0
        wash 0
        draw 0 10
        days 2
        turn 0 3 = 0
        days 1 = 0
        of 0 1 = 110
        """);
  }

  private static void people() {
    Edge.holds("PEOPLE 0, 1, .. (at most 6)", """
        count 1 = 0
        size 0 0 = BEYOND
        person 20 30 = 0
        size 0 0 = 20
        size 1 0 = BEYOND
        3x person 20 30 = 3
        person 20 30 = 4
        size 5 1 = BEYOND
        person 40 50 = 5
        size 5 1 = 50
        person 20 30 = FULL
        size 6 0 = BEYOND
        count 1 = 6
        """);
    Edge.holds("each of a LENGTH and a BREADTH (10 to 200)", """
        person 9 100 = BEYOND
        person 10 100 = 0
        person 200 100 = 1
        person 201 100 = BEYOND
        person 100 9 = BEYOND
        person 100 10 = 2
        person 100 200 = 3
        person 100 201 = BEYOND
        person 10 10 = 4
        person 200 200 = 5
        """);
  }

  /** Rows: LENGTH and BREADTH, LONG and BROAD, whether it FITS. */
  private static void fits() {
    int[][] rows = {
      {100, 100, 99, 100, 0}, {100, 100, 100, 100, 1}, {100, 100, 110, 100, 1}, {100, 100, 111, 100, 0}, {100, 100, 100, 99, 0},
      {100, 100, 100, 115, 1}, {100, 100, 100, 116, 0}, {100, 100, 110, 115, 1}, {100, 100, 111, 116, 0}, {100, 100, 99, 99, 0},
      {10, 10, 10, 10, 1}, {10, 10, 20, 25, 1}, {10, 10, 21, 25, 0}, {10, 10, 20, 26, 0}, {200, 200, 200, 200, 1},
      {200, 200, 199, 200, 0}, {200, 200, 200, 199, 0}, {190, 185, 200, 200, 1}, {189, 185, 200, 200, 0},
      {190, 184, 200, 200, 0}
    };
    for (int[] r : rows) {
      Edge.holds("FITS: from as LONG as LENGTH to 10 more, and from as BROAD as BREADTH to 15 more", Edge.run(
          "garment 0 | person $length $breadth | set 0 1 $long | set 0 2 $broad | fits 0 = $due | now 5 = $due",
          "$length", r[0], "$breadth", r[1], "$long", r[2], "$broad", r[3], "$due", r[4]));
    }
    Edge.holds("FITS: if it is dry", """
        garment 0
        person 100 100
        fits 0 = 1
        wash 0
        fits 0 = 0
        days 2 = 1
        fits 0 = 0
        now 5 = 0
        days 1 = 0
        fits 0 = 1
        now 5 = 1
        """);
    Edge.holds("FITS: has no HOLES", """
        garment 0
        person 100 100
        set 0 6 1
        fits 0 = 0
        now 5 = 0
        set 0 6 9999
        fits 0 = 0
        set 0 6 0
        fits 0 = 1
        """);
  }

  private static void aheadAndAgain() {
    Edge.holds("AHEAD: n DAYS go on with all as it is; nothing changes", """
        garment 4
        garment 0
        person 94 91
        wash 0
        draw 0 10
        type 'wool'
        image
        on 0 0 0 = 110
        on 0 2 0 = 110
        on 0 3 0 = 104
        on 0 100 0 = 104
        on 0 3 1 = 95
        on 0 2 2 = 1
        on 0 3 2 = 0
        dressed 2 = 0
        dressed 3 = 0
        of 0 1 = 110
        of 0 4 = 3
        now 0 = 0
        """);
    Edge.holds("AHEAD of the last DAY, too", """
        garment 0
        person 100 100
        999x days 100
        days 99 = 0
        wash 0
        on 0 1 2 = 2
        on 0 100 2 = 0
        dressed 100 = 0
        now 0 = 99999
        """);
    Edge.holds("AGAIN: at the DEGREES and with the TOWELS that are; nothing changes", """
        garment 4
        again 0 40 0 = 100
        machine 0 42
        again 0 1 0 = 99
        machine 1 1
        again 0 1 0 = 98
        again 0 0 0 = 100
        again 0 2 0 = 97
        wash 0 = 98
        draw 0 10 = 108
        again 0 0 0 = 108
        again 0 1 0 = 106
        of 0 1 = 108
        of 0 4 = 3
        of 0 5 = 10
        """);
  }

  private static void sheets() {
    for (int s = 0; s <= 3; s++) {
      Edge.holds("SHEETS 0 to 3 are MISSING (at first)", "lays " + s + " = MISSING | write " + s + " 0 0 = MISSING | sheet " + s
          + " 8 0 = 0 | lays " + s + " = 0");
    }
    Edge.holds("SHEETS 0 to 3: no other", "lays -1 = BEYOND | lays 4 = BEYOND | sheet -1 8 1 = BEYOND | sheet 4 8 1 = BEYOND");
    for (int bits : new int[] {8, 16, 64}) {
      Edge.holds("rows of at most 40 numbers", Edge.run("""
          sheet 1 $bits 39 = 39
          write 1 38 7 = 0
          write 1 39 7 = BEYOND
          sheet 1 $bits 40 = 40
          write 1 38 7 = 0
          write 1 39 8 = 0
          write 1 40 9 = BEYOND
          sheet 1 $bits 41 = BEYOND
          write 1 39 0 = 8
          """, "$bits", bits));
    }
  }
}
