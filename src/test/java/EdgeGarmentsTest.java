/** The boundaries of promises 1 to 13: a new object, the machine, garments and people. */
public final class EdgeGarmentsTest {
  /** A scene with something of all kinds, so that a refused call has something to change. */
  private static final String SCENE = """
      days 5
      machine 0 60
      machine 1 1
      garment 4
      garment 5
      set 1 1 120
      set 1 6 2
      wash 0
      draw 0 7
      days 1
      person 60 70
      image
      person 80 90
      sheet 0 16 3
      write 0 1 33
      type 'silk;wash 0'
      """;
  private static final String EIGHT = "8x garment 0";
  private static final String SIX = "6x person 100 100";

  public static void main(String[] args) {
    aNewObject();
    machine();
    now();
    garment();
    of();
    set();
    wash();
    draw();
    turn();
    as();
    person();
    size();
    fits();
    Due.end();
  }

  private static void aNewObject() {
    Edge.holds("Promise 1: Nothing in the basket, nobody", """
        count 0 = 0
        count 1 = 0
        count 3 = 0
        now 3 = 0
        now 4 = 0
        now 5 = 0
        wash 0 = BEYOND
        fits 0 = BEYOND
        garment 0 = 0
        person 10 10 = 0
        """);
    Edge.holds("Promise 1: THE TAPE is empty", "count 2 = 0 | wipe = 0 | basket = -1 | feed 32 1 = 1");
    Edge.holds("Promise 1: no image is kept", "tear = 0 | undo = NONE | image = 1 | undo = 0 | tear = 1");
    Edge.holds("Promise 1: no finding yet", """
        status -1 = 0
        status 0 = 0
        status 1 = 0
        status 2 = 0
        status 3 = 0
        status 4 = 0
        status 5 = 0
        status 6 = 0
        """);
  }

  private static void machine() {
    Edge.range("Promise 2: DEGREES", SCENE, "machine 0 *", 20, 95);
    Edge.range("Promise 2: TOWELS", SCENE, "machine 1 *", 0, 1);
    for (int what : new int[] {-1, 2, Due.MIN, Due.MAX}) {
      for (int v : new int[] {0, 1, 40}) {
        Edge.holds("Promise 2: what 0 or 1", SCENE + "machine " + what + " " + v + " = BEYOND");
      }
    }
    Edge.holds("Promise 2: 40 is no TOWELS, 1 and 0 are no DEGREES", SCENE + """
        machine 1 40 = BEYOND
        machine 0 1 = BEYOND
        machine 0 0 = BEYOND
        """);
    Edge.holds("Promise 2: what it was", SCENE + """
        machine 0 60 = 60
        machine 0 20 = 60
        machine 0 96 = BEYOND
        machine 0 95 = 20
        machine 1 0 = 1
        machine 1 2 = BEYOND
        machine 1 1 = 0
        """);
  }

  private static void now() {
    Edge.range("Promise 3: what 0 to 5", SCENE, "now *", 0, 5);
    Edge.holds("Promise 3: each of them", SCENE + """
        now 0 = 6
        now 1 = 60
        now 2 = 1
        now 3 = 1
        now 4 = 2
        now 5 = 0
        """);
    Edge.holds("Promise 3: garments that are WET, of none, some, all", EIGHT + """

        now 3 = 0
        wash 3
        now 3 = 8
        days 2
        now 3 = 8
        wash 7
        now 3 = 136
        days 1
        now 3 = 128
        """);
    Edge.holds("Promise 3: that have HOLES, 1 or 9999", EIGHT + """

        now 4 = 0
        set 0 6 1
        now 4 = 1
        set 7 6 9999
        now 4 = 129
        set 0 6 0
        now 4 = 128
        """);
    Edge.holds("Promise 3: that FIT anybody: nobody, the first, the last, two", EIGHT + """

        now 5 = 0
        person 10 10
        now 5 = 0
        set 2 1 10
        set 2 2 10
        now 5 = 4
        4x person 90 84
        now 5 = 4
        person 90 85
        now 5 = 255
        set 7 1 101
        now 5 = 127
        """);
  }

  private static void garment() {
    Edge.range("Promise 4: kind", SCENE, "garment *", 0, 5);
    Edge.range("Promise 4: kind, of the 8th", "7x garment 0", "garment *", 0, 5);
    Edge.holds("Promise 4: the 8th and no 9th", "7x garment 0" + """

        garment 5 = 7
        garment 5 = FULL
        garment 0 = FULL
        """);
    Edge.holds("Promise 4: BEYOND is asked ahead of FULL", EIGHT + """

        garment 6 = BEYOND
        garment -1 = BEYOND
        garment MIN = BEYOND
        garment MAX = BEYOND
        garment 5 = FULL
        """);
    Edge.holds("Promise 4: FULL no more once it is undone", "7x garment 0" + """

        image
        garment 1 = 7
        garment 1 = FULL
        undo = 7
        garment 2 = 7
        garment 2 = FULL
        """);
  }

  private static void of() {
    Edge.range("Promise 5: what 0 to 10", SCENE, "of 0 *", 0, 10);
    Edge.range("Promise 5: garments 0 and 1", SCENE, "of * 1", 0, 1);
    Edge.range("Promise 5: garments 0 to 7", EIGHT, "of * 10", 0, 7);
    Edge.holds("Promise 5: no garment at all", "of 0 0 = BEYOND | of -1 0 = BEYOND | of 0 11 = BEYOND | of 8 -1 = BEYOND");
    Edge.holds("Promise 5: each of them", SCENE + """
        of 0 0 = 4
        of 0 1 = 87
        of 0 2 = 77
        of 0 3 = 17
        of 0 4 = 2
        of 0 5 = 7
        of 0 6 = 0
        of 0 7 = 20
        of 0 8 = 7
        of 0 9 = 28
        of 0 10 = 40
        of 1 0 = 5
        of 1 1 = 120
        of 1 2 = 100
        of 1 3 = 10
        of 1 4 = 0
        of 1 5 = 0
        of 1 6 = 2
        of 1 7 = 4
        of 1 8 = 2
        of 1 9 = 7
        of 1 10 = 20
        """);
  }

  private static void set() {
    Edge.range("Promise 6: LONG", SCENE, "set 0 1 *", 10, 200);
    Edge.range("Promise 6: BROAD", SCENE, "set 0 2 *", 10, 200);
    Edge.range("Promise 6: THICK", SCENE, "set 0 3 *", 1, 99);
    Edge.range("Promise 6: HOLES", SCENE, "set 0 6 *", 0, 9999);
    Edge.range("Promise 6: garments 0 and 1", SCENE, "set * 1 50", 0, 1);
    Edge.range("Promise 6: garments 0 to 7", EIGHT, "set * 6 0", 0, 7);
    for (int what : new int[] {Due.MIN, -1, 0, 4, 5, 7, 8, 9, 10, 11, Due.MAX}) {
      for (int v : new int[] {0, 1, 3, 10, 50}) {
        Edge.holds("Promise 6: what 1, 2, 3 or 6", SCENE + "set 0 " + what + " " + v + " = BEYOND");
      }
    }
    Edge.holds("Promise 6: no garment at all", "set 0 1 50 = BEYOND | set -1 6 0 = BEYOND");
    Edge.holds("Promise 6: what it was, while it is WET, too", SCENE + """
        set 0 1 87 = 87
        set 0 1 10 = 87
        set 0 1 9 = BEYOND
        set 0 1 200 = 10
        set 0 2 10 = 77
        set 0 2 200 = 10
        set 0 3 1 = 17
        set 0 3 99 = 1
        set 0 6 9999 = 0
        set 0 6 0 = 9999
        set 1 6 1 = 2
        """);
  }

  private static void wash() {
    Edge.range("Promise 7: garments 0 and 1", SCENE, "wash *", 0, 1);
    Edge.range("Promise 7: garments 0 to 7", EIGHT, "wash *", 0, 7);
    Edge.holds("Promise 7: no garment at all", "wash 0 = BEYOND | wash -1 = BEYOND");
    Edge.holds("Promise 7: LONG then", SCENE + """
        wash 0 = 70
        of 0 1 = 70
        of 0 2 = 62
        of 0 3 = 24
        wash 1 = 116
        """);
  }

  private static void draw() {
    Edge.range("Promise 8: n 1 to 50", SCENE, "draw 0 *", 1, 50);
    Edge.holds("Promise 8: BEYOND: a garment that isn't there", SCENE + """
        draw -1 1 = BEYOND
        draw 2 1 = BEYOND
        draw MIN 1 = BEYOND
        draw MAX 1 = BEYOND
        draw 0 1 = 88
        """);
    Edge.range("Promise 8: garments 0 to 7", EIGHT + " | wash 0 | wash 7", "draw * 1", 0, 7);
    Edge.holds("Promise 8: STATE: it is dry", SCENE + """
        draw 1 1 = STATE
        draw 1 50 = STATE
        wash 1
        draw 1 1 = 117
        days 2
        draw 1 1 = 118
        days 1
        draw 1 1 = STATE
        """);
    Edge.holds("Promise 8: BEYOND is asked ahead of STATE", SCENE + """
        draw 1 0 = BEYOND
        draw 1 51 = BEYOND
        draw 1 -1 = BEYOND
        draw 1 MIN = BEYOND
        draw 1 MAX = BEYOND
        draw 2 0 = BEYOND
        """);
  }

  private static void turn() {
    Edge.range("Promise 9: kind", SCENE, "turn 0 *", 0, 5);
    Edge.range("Promise 9: garments 0 and 1", SCENE, "turn * 3", 0, 1);
    Edge.range("Promise 9: garments 0 to 7", EIGHT, "turn * 3", 0, 7);
    Edge.holds("Promise 9: no garment at all", "turn 0 0 = BEYOND");
    Edge.holds("Promise 9: what it was", SCENE + """
        turn 0 0 = 4
        turn 0 6 = BEYOND
        turn 0 5 = 0
        turn 0 5 = 5
        of 0 0 = 5
        of 1 0 = 5
        """);
  }

  private static void as() {
    String[] is = {"0", "01", "02", "03", "014", "025"};
    for (int of = 0; of <= 5; of++) {
      for (int kind = 0; kind <= 5; kind++) {
        String due = is[of].contains(Integer.toString(kind)) ? "77" : "KIND";
        Edge.holds("Promise 10: KIND: it isn't of that kind, nor of one under it",
            Edge.run("garment $of | set 0 3 77 | as 0 $kind = $due", "$of", of, "$kind", kind, "$due", due));
      }
    }
    Edge.range("Promise 10: garments 0 and 1", SCENE, "as * 0", 0, 1);
    Edge.range("Promise 10: garments 0 to 7", EIGHT, "as * 0", 0, 7);
    Edge.holds("Promise 10: BEYOND: no such one, kind; ahead of KIND", SCENE + """
        as 0 -1 = BEYOND
        as 0 0 = 17
        as 0 5 = KIND
        as 0 6 = BEYOND
        as 0 MIN = BEYOND
        as 0 MAX = BEYOND
        as 2 5 = BEYOND
        as -1 3 = BEYOND
        as 2 6 = BEYOND
        as 1 5 = 10
        as 1 4 = KIND
        """);
  }

  private static void person() {
    Edge.range("Promise 11: length", SCENE, "person * 50", 10, 200);
    Edge.range("Promise 11: breadth", SCENE, "person 50 *", 10, 200);
    Edge.holds("Promise 11: the 6th and no 7th", "5x person 10 10" + """

        person 10 10 = 5
        person 10 10 = FULL
        person 200 200 = FULL
        """);
    Edge.holds("Promise 11: BEYOND is asked ahead of FULL", SIX + """

        person 9 50 = BEYOND
        person 201 50 = BEYOND
        person 50 9 = BEYOND
        person 50 201 = BEYOND
        person 9 201 = BEYOND
        person MIN MAX = BEYOND
        person 10 200 = FULL
        """);
    Edge.holds("Promise 11: FULL no more once it is undone", "5x person 10 10" + """

        image
        person 11 12 = 5
        person 11 12 = FULL
        undo = 0
        person 13 14 = 5
        size 5 0 = 13
        size 5 1 = 14
        """);
  }

  private static void size() {
    Edge.range("Promise 12: what 0 and 1", SCENE, "size 0 *", 0, 1);
    Edge.range("Promise 12: people 0 and 1", SCENE, "size * 0", 0, 1);
    Edge.range("Promise 12: people 0 to 5", SIX, "size * 1", 0, 5);
    Edge.holds("Promise 12: nobody", "size 0 0 = BEYOND | size -1 1 = BEYOND | size 0 2 = BEYOND");
    Edge.holds("Promise 12: LENGTH, BREADTH", SCENE + """
        size 0 0 = 60
        size 0 1 = 70
        size 1 0 = 80
        size 1 1 = 90
        """);
  }

  private static void fits() {
    Edge.range("Promise 13: people 0 and 1", SCENE, "fits *", 0, 1);
    Edge.range("Promise 13: people 0 to 5", SIX, "fits *", 0, 5);
    Edge.holds("Promise 13: nobody", EIGHT + " | fits 0 = BEYOND | fits -1 = BEYOND");
    Edge.holds("Promise 13: no garment, the first, the last, all", SIX + """

        fits 0 = 0
        garment 0
        fits 0 = 1
        fits 5 = 1
        7x garment 0 = 7
        fits 5 = 255
        set 0 1 99
        fits 5 = 254
        set 7 1 111
        fits 5 = 126
        """);
  }
}
