/** The boundaries of promises 14 to 22: days, and what is best. */
public final class EdgeDaysTest {
  /** Garment 0 is WET and DRAWN, 1 has a HOLE, 2 is as at first; nothing fits person 1. */
  private static final String SCENE = """
      machine 0 60
      garment 4
      garment 5
      garment 1
      set 1 6 1
      wash 0
      draw 0 10
      person 90 90
      person 10 200
      sheet 0 64 2
      write 0 0 5
      type 'towels'
      image
      """;
  private static final String EIGHT = "8x garment 0";
  private static final String SIX = "6x person 100 100";

  public static void main(String[] args) {
    days();
    daysState();
    on();
    again();
    washes();
    warmest();
    pull();
    pullHoles();
    garmentAndPerson();
    kind();
    dressed();
    shortest();
    Due.end();
  }

  private static void days() {
    Edge.range("Promise 14: n 1 to 100", SCENE, "days *", 1, 100);
    Edge.holds("Promise 14: garments that are WET then", SCENE + """
        days 1 = 1
        days 1 = 1
        days 0 = BEYOND
        days 1 = 0
        now 0 = 3
        of 0 1 = 94
        """, SCENE + """
        days 2 = 1
        wash 2
        days 2 = 4
        days 101 = BEYOND
        days 100 = 0
        now 0 = 104
        of 0 1 = 94
        """, SCENE + """
        days 3 = 0
        """, "days 100 = 0 | now 0 = 100");
  }

  /** Takes more calls than an object is promised for, as no other way leads there. */
  private static void daysState() {
    Edge.holds("Promise 14: STATE: DAY would be above 99999; BEYOND is asked ahead of it", """
        garment 0
        998x days 100
        days 99 = 0
        now 0 = 99899
        wash 0
        days 101 = BEYOND
        days 100 = 0
        now 0 = 99999
        wash 0
        days 1 = STATE
        days 100 = STATE
        days 0 = BEYOND
        days 101 = BEYOND
        days MIN = BEYOND
        days MAX = BEYOND
        of 0 4 = 3
        """, """
        garment 0
        999x days 100
        wash 0
        days 100 = STATE
        of 0 4 = 3
        days 99 = 0
        of 0 4 = 0
        """);
  }

  private static void on() {
    Edge.range("Promise 15: n 0 to 100", SCENE, "on 0 * 0", 0, 100);
    Edge.range("Promise 15: what 0 to 2", SCENE, "on 0 100 *", 0, 2);
    Edge.range("Promise 15: garments 0 to 2", SCENE, "on * 0 0", 0, 2);
    Edge.range("Promise 15: garments 0 to 7", EIGHT, "on * 100 2", 0, 7);
    Edge.holds("Promise 15: no garment at all", "on 0 0 0 = BEYOND | on -1 -1 -1 = BEYOND");
    Edge.holds("Promise 15: LONG, BROAD, WET, 0 DAYS to 100 AHEAD", SCENE + """
        on 0 0 0 = 100
        on 0 0 1 = 85
        on 0 0 2 = 3
        on 0 1 2 = 2
        on 0 2 0 = 100
        on 0 2 2 = 1
        on 0 3 0 = 94
        on 0 3 1 = 85
        on 0 3 2 = 0
        on 0 4 0 = 94
        on 0 4 2 = 0
        on 0 100 0 = 94
        on 0 100 1 = 85
        on 0 100 2 = 0
        on 2 100 0 = 100
        on 2 0 2 = 0
        """);
  }

  private static void again() {
    Edge.range("Promise 16: n 0 to 40", SCENE, "again 0 * 0", 0, 40);
    Edge.range("Promise 16: what 0 to 2", SCENE, "again 0 40 *", 0, 2);
    Edge.range("Promise 16: garments 0 to 2", SCENE, "again * 0 0", 0, 2);
    Edge.range("Promise 16: garments 0 to 7", EIGHT, "again * 40 2", 0, 7);
    Edge.holds("Promise 16: no garment at all", "again 0 0 0 = BEYOND | again -1 -1 -1 = BEYOND");
    Edge.holds("Promise 16: LONG, BROAD, THICK, washed 0 times to 40", SCENE + """
        again 0 0 0 = 100
        again 0 0 1 = 85
        again 0 0 2 = 14
        again 0 1 0 = 90
        again 0 1 1 = 77
        again 0 1 2 = 18
        again 0 40 2 = 99
        again 2 1 0 = 90
        again 2 2 0 = 81
        again 2 2 2 = 16
        """);
    Edge.holds("Promise 16: one wash behind the other, the 40th, too", """
        garment 2
        set 0 1 140
        set 0 2 200
        machine 0 20
        again 0 39 0 = 101
        again 0 40 0 = 100
        again 0 41 0 = BEYOND
        again 0 1 1 = 198
        again 0 40 2 = 10
        """, """
        garment 5
        set 0 3 20
        again 0 39 2 = 98
        again 0 40 2 = 99
        set 0 3 18
        again 0 40 2 = 98
        """);
  }

  private static void washes() {
    Edge.holds("Promise 17: 1 to 40 times, first; NONE", """
        garment 2
        machine 0 20
        person 90 90
        set 0 1 200
        washes 0 0 = NONE
        set 0 1 141
        washes 0 0 = NONE
        set 0 1 140
        washes 0 0 = 40
        set 0 1 139
        washes 0 0 = 39
        set 0 1 102
        washes 0 0 = 2
        set 0 1 101
        washes 0 0 = 1
        set 0 1 100
        washes 0 0 = 1
        set 0 1 90
        washes 0 0 = 1
        set 0 1 89
        washes 0 0 = NONE
        """, """
        garment 2
        machine 0 20
        person 100 90
        fits 0 = 1
        washes 0 0 = NONE
        set 0 1 101
        washes 0 0 = 1
        """);
    Edge.holds("Promise 17: and BROAD", """
        garment 2
        machine 0 20
        person 90 90
        set 0 2 105
        washes 0 0 = 1
        set 0 2 107
        washes 0 0 = 2
        set 0 2 145
        washes 0 0 = 40
        set 0 2 146
        washes 0 0 = NONE
        """);
    Edge.holds("Promise 17: AGAIN with the TOWELS that are, and let dry for 3 DAYS", """
        garment 4
        machine 0 60
        person 64 64
        wash 0
        draw 0 20
        set 0 1 100
        set 0 2 100
        washes 0 0 = 3
        machine 1 1
        washes 0 0 = 2
        set 0 6 1
        washes 0 0 = NONE
        """);
  }

  /** Rows: kind, towels, LENGTH, BREADTH, LONG, what is due; BROAD is 100. */
  private static void warmest() {
    int[][] rows = {
      {0, 0, 100, 100, 100, 95}, {0, 0, 100, 100, 110, 95}, {0, 0, 100, 100, 111, Due.NONE}, {0, 0, 100, 100, 99, Due.NONE},
      {1, 0, 100, 90, 100, 41}, {1, 0, 99, 90, 100, 43}, {1, 0, 74, 70, 100, 93}, {1, 0, 73, 70, 100, 95},
      {1, 0, 101, 90, 100, Due.NONE}, {1, 0, 100, 80, 111, 61}, {2, 0, 100, 90, 100, Due.NONE}, {2, 0, 99, 90, 100, 39},
      {2, 0, 98, 90, 100, 59}, {2, 0, 97, 90, 100, 79}, {2, 0, 96, 90, 100, 95}, {3, 0, 100, 100, 100, 60},
      {3, 0, 50, 50, 100, 95}, {3, 0, 51, 50, 100, Due.NONE}, {3, 0, 49, 40, 100, 95}, {4, 0, 90, 90, 100, 61},
      {4, 1, 90, 90, 100, 51}, {4, 1, 46, 46, 100, 95}, {5, 0, 98, 90, 100, 59}, {5, 0, 97, 90, 100, 59},
      {5, 0, 96, 90, 100, 79}, {5, 0, 95, 90, 100, 95}
    };
    for (int[] r : rows) {
      Edge.holds("Promise 18: the greatest DEGREES (20 to 95), TOWELS as they are; NONE", Edge.run("""
          garment $kind
          machine 1 $towels
          person $length $breadth
          set 0 1 $long
          warmest 0 0 = $due
          machine 0 95
          warmest 0 0 = $due
          """, "$kind", r[0], "$towels", r[1], "$length", r[2], "$breadth", r[3], "$long", r[4], "$due", orNone(r[5])));
    }
    Edge.holds("Promise 18: washed once, and let dry for 3 DAYS, WET and DRAWN or not; never with HOLES", """
        garment 1
        person 90 90
        wash 0
        draw 0 10
        set 0 1 100
        set 0 2 100
        warmest 0 0 = 61
        set 0 6 1
        warmest 0 0 = NONE
        """);
  }

  private static String orNone(int due) {
    return due == Due.NONE ? "NONE" : Integer.toString(due);
  }

  /** Rows: LENGTH, BREADTH, what is due for WOOL that is 90 by 90 once it is washed, and bears 13. */
  private static void pull() {
    int[][] rows = {
      {90, 90, 0}, {90, 91, Due.NONE}, {91, 90, 1}, {91, 91, Due.NONE}, {92, 89, 3}, {92, 90, Due.NONE}, {96, 80, 11},
      {97, 80, 13}, {98, 80, Due.NONE}, {80, 80, 0}, {79, 80, Due.NONE}, {90, 75, 0}, {90, 74, 2}, {90, 69, 12},
      {90, 68, Due.NONE}
    };
    for (int[] r : rows) {
      Edge.holds("Promise 19: the least n (0 to 50; 0: not DRAWN); NONE", Edge.run(
          "garment 1 | machine 0 60 | person $length $breadth | pull 0 0 = $due",
          "$length", r[0], "$breadth", r[1], "$due", orNone(r[2])));
    }
    int[][] far = {{110, 52, 48}, {110, 51, 48}, {110, 50, 50}, {110, 49, Due.NONE}, {111, 50, Due.NONE}, {109, 51, 48}};
    for (int[] r : far) {
      Edge.holds("Promise 19: n to 50, no more", Edge.run(
          "garment 4 | set 0 3 99 | machine 0 60 | person $length $breadth | pull 0 0 = $due",
          "$length", r[0], "$breadth", r[1], "$due", orNone(r[2])));
    }
  }

  private static void pullHoles() {
    Edge.holds("Promise 19: too much and it's a hole", """
        garment 1
        machine 0 60
        person 98 80
        pull 0 0 = NONE
        set 0 3 16
        pull 0 0 = NONE
        set 0 3 17
        pull 0 0 = 15
        set 0 6 1
        pull 0 0 = NONE
        """);
    Edge.holds("Promise 19: washed once, so that WET and DRAWN don't matter, but the machine does", """
        garment 3
        person 200 100
        wash 0
        draw 0 3
        set 0 1 200
        set 0 2 100
        pull 0 0 = 0
        set 0 1 199
        pull 0 0 = 1
        set 0 1 198
        pull 0 0 = NONE
        set 0 2 101
        pull 0 0 = 2
        set 0 1 197
        pull 0 0 = 3
        set 0 1 196
        pull 0 0 = NONE
        set 0 1 200
        machine 0 60
        pull 0 0 = 0
        machine 0 61
        pull 0 0 = NONE
        """);
  }

  private static void garmentAndPerson() {
    for (String call : new String[] {"washes", "warmest", "pull"}) {
      String sentence = "Promises 17 to 19: BEYOND, ahead of NONE: " + call;
      Edge.holds(sentence, SCENE + Edge.run("""
          $call 2 0 = may
          $call 2 1 = NONE
          $call 1 0 = NONE
          $call 0 1 = NONE
          $call 3 1 = BEYOND
          $call 0 2 = BEYOND
          $call 3 2 = BEYOND
          """, "$call", call));
      Edge.range(sentence, EIGHT + " | " + SIX, call + " * 5", 0, 7);
      Edge.range(sentence, EIGHT + " | " + SIX, call + " 7 *", 0, 5);
      Edge.holds(sentence, Edge.run("""
          $call 0 0 = BEYOND
          garment 0
          $call 0 0 = BEYOND
          person 100 100
          $call 0 0 = may
          """, "$call", call), "person 100 100 | " + call + " 0 0 = BEYOND");
    }
  }

  private static void kind() {
    Edge.range("Promise 20: n 1 to 40", SCENE, "kind 0 *", 1, 40);
    Edge.range("Promise 20: garments 0 to 2", SCENE, "kind * 1", 0, 2);
    Edge.range("Promise 20: garments 0 to 7", EIGHT, "kind * 40", 0, 7);
    Edge.holds("Promise 20: no garment at all", "kind 0 1 = BEYOND | kind 0 0 = BEYOND");
    for (int k = 0; k <= 5; k++) {
      Edge.holds("Promise 20: GARMENT never shrinks; of several the least", Edge.run("""
          garment $kind
          kind 0 1 = 0
          kind 0 40 = 0
          machine 0 95
          machine 1 1
          kind 0 1 = 0
          kind 0 40 = 0
          set 0 1 10
          kind 0 1 = 0
          set 0 1 200
          kind 0 1 = 0
          """, "$kind", k));
    }
  }

  private static void dressed() {
    Edge.range("Promise 21: n 0 to 100", SCENE, "dressed *", 0, 100);
    Edge.holds("Promise 21: NONE: nobody is there; BEYOND is asked ahead of it", EIGHT + """

        dressed 0 = NONE
        dressed 100 = NONE
        dressed -1 = BEYOND
        dressed 101 = BEYOND
        dressed MIN = BEYOND
        dressed MAX = BEYOND
        person 10 10
        dressed 0 = 0
        """);
    Edge.holds("Promise 21: whom most garments FIT, of several the least", SIX + """

        dressed 0 = 0
        garment 0
        dressed 0 = 0
        """, """
        person 10 10
        person 100 100
        person 90 90
        person 50 50
        dressed 0 = 0
        garment 0
        dressed 0 = 1
        garment 0
        set 1 1 90
        set 1 2 90
        dressed 0 = 2
        garment 0
        set 2 1 110
        dressed 0 = 1
        garment 0
        set 3 1 50
        set 3 2 50
        dressed 0 = 1
        garment 0
        set 4 1 50
        set 4 2 50
        dressed 0 = 1
        garment 0
        set 5 1 50
        set 5 2 50
        dressed 0 = 3
        """, "5x person 10 10 | person 100 100 | garment 0 | dressed 0 = 5 | dressed 100 = 5");
    Edge.holds("Promise 21: n DAYS AHEAD", """
        person 50 50
        person 100 90
        garment 0
        wash 0
        draw 0 10
        dressed 0 = 0
        dressed 2 = 0
        dressed 3 = 1
        dressed 4 = 1
        dressed 100 = 1
        set 0 1 115
        dressed 3 = 1
        set 0 1 116
        dressed 3 = 0
        """);
  }

  private static void shortest() {
    Edge.range("Promise 22: n 0 to 40", SCENE, "shortest *", 0, 40);
    Edge.holds("Promise 22: NONE: there is none; BEYOND is asked ahead of it", SIX + """

        shortest 0 = NONE
        shortest 40 = NONE
        shortest -1 = BEYOND
        shortest 41 = BEYOND
        shortest MIN = BEYOND
        shortest MAX = BEYOND
        garment 0
        shortest 0 = 0
        """);
    Edge.holds("Promise 22: LONG least, of several the least", EIGHT + """

        shortest 0 = 0
        set 7 1 99
        shortest 0 = 7
        set 6 1 99
        shortest 40 = 6
        set 0 1 98
        shortest 0 = 0
        """, "garment 0 | set 0 1 200 | shortest 0 = 0 | shortest 40 = 0");
    Edge.holds("Promise 22: washed 0 times to 40 AGAIN", """
        garment 0
        garment 2
        machine 0 20
        set 1 1 139
        shortest 0 = 0
        shortest 39 = 0
        shortest 40 = 1
        set 1 1 140
        shortest 40 = 0
        """);
    Edge.holds("Promise 22: at the DEGREES and with the TOWELS that are", """
        garment 2
        garment 4
        machine 0 42
        shortest 1 = 0
        machine 0 45
        shortest 1 = 0
        machine 1 1
        shortest 1 = 1
        """);
  }
}
