/** The boundaries of promises 32 to 36: images, count and status. */
public final class EdgeImagesTest {
  private static final String SCENE = """
      days 3
      machine 0 60
      machine 1 1
      garment 4
      set 0 6 3
      wash 0
      draw 0 7
      days 1
      person 50 60
      type 'silk'
      sheet 0 16 2
      write 0 0 9
      """;
  /** Changes all that section 1 tells, THE TAPE and a sheet. */
  private static final String CHANGES = """
      machine 0 20
      machine 1 0
      turn 0 2
      set 0 1 55
      set 0 2 56
      set 0 3 57
      set 0 6 58
      draw 0 2
      days 50
      garment 1
      person 70 80
      feed 59 1
      write 0 0 8
      sheet 1 8 1
      """;

  public static void main(String[] args) {
    image();
    imageKeepsEach();
    undo();
    tear();
    count();
    status();
    statusOfEach();
    Due.end();
  }

  private static void image() {
    Edge.holds("Promise 32: 1, with nothing and with all there is", "image = 1 | image = 1 | undo = 0",
        "8x garment 0 | 6x person 10 10 | image = 1 | undo = 8 | count 0 = 8 | count 1 = 6", SCENE + "image = 1 | image = 1");
    Edge.holds("Promise 32: THE TAPE not", SCENE + """
        image = 1
        feed 59 1 = 5
        undo = 1
        count 2 = 5
        wipe = 5
        undo = 1
        count 2 = 0
        """);
  }

  private static void imageKeepsEach() {
    Edge.holds("Promise 32: All that section 1 tells is kept", SCENE + "image = 1 | " + CHANGES + """
        undo = 1
        now 0 = 4
        now 1 = 60
        now 2 = 1
        count 0 = 1
        count 1 = 1
        of 0 0 = 4
        of 0 1 = 87
        of 0 2 = 77
        of 0 3 = 17
        of 0 4 = 2
        of 0 5 = 7
        of 0 6 = 3
        size 0 0 = 50
        size 0 1 = 60
        of 1 0 = BEYOND
        size 1 0 = BEYOND
        """);
    Edge.holds("Promise 32: the sheets are not kept, nor is status", SCENE + "image = 1 | garment 6 = BEYOND | " + CHANGES + """
        undo = 1
        write 0 0 0 = 8
        write 1 0 0 = 0
        status 0 = 1
        """);
    Edge.holds("Promise 32: what is kept doesn't change with what there is", SCENE + "image = 1 | " + CHANGES + """
        wash 0 = may
        days 1 = 1
        undo = 1
        of 0 1 = 87
        set 0 1 20 = 87
        undo = 1
        of 0 1 = 87
        wipe = 5
        basket 'silk;wash 0' = 2
        undo = 1
        of 0 1 = 87
        """);
  }

  private static void undo() {
    Edge.holds("Promise 33: NONE: nothing is kept", "undo = NONE | undo = NONE",
        SCENE + "undo = NONE | image = 1 | undo = 1 | tear = 1 | undo = NONE");
    Edge.holds("Promise 33: how many GARMENTS: none, 1, 8", "image | 8x garment 0 | undo = 0 | count 0 = 0",
        "garment 0 | image | 7x garment 0 | undo = 1 | garment 0 = 1", "8x garment 0 | image | undo = 8 | garment 0 = FULL");
    Edge.holds("Promise 33: what was kept latest (which stays)", """
        image = 1
        garment 0 = 0
        image = 1
        garment 0 = 1
        undo = 1
        undo = 1
        garment 0 = 1
        garment 0 = 2
        undo = 1
        image = 1
        undo = 1
        """, "garment 0 | image = 1 | image = 1 | garment 0 | undo = 1 | image = 1 | garment 0 | garment 0 | undo = 1");
  }

  private static void tear() {
    Edge.holds("Promise 34: 1 if something was, else 0", """
        tear = 0
        tear = 0
        image = 1
        tear = 1
        tear = 0
        image = 1
        image = 1
        tear = 1
        tear = 0
        undo = NONE
        tear = 0
        """, SCENE + "image = 1 | undo = 1 | undo = 1 | tear = 1 | undo = NONE | image = 1 | garment 0 = 1 | undo = 1");
  }

  private static void count() {
    Edge.range("Promise 35: 0 to 3; BEYOND: another what", SCENE, "count *", 0, 3);
    Edge.holds("Promise 35: GARMENTS 0 to 8",
        "count 0 = 0 | garment 0 | count 0 = 1 | 7x garment 0 | count 0 = 8 | garment 0 = FULL | count 0 = 8");
    Edge.holds("Promise 35: PEOPLE 0 to 6",
        "count 1 = 0 | person 10 10 | count 1 = 1 | 5x person 10 10 | count 1 = 6 | person 10 10 = FULL | count 1 = 6");
    Edge.holds("Promise 35: bytes of THE TAPE 0 to 120", """
        count 2 = 0
        feed 0 1
        count 2 = 1
        29x feed 0 4
        count 2 = 117
        feed 0 4 = FULL
        count 2 = 117
        feed 0 3
        count 2 = 120
        wipe = 120
        count 2 = 0
        """);
    Edge.holds("Promise 35: HOLES of all together, 0 to 8 times 9999", """
        count 3 = 0
        8x garment 0
        count 3 = 0
        set 7 6 1
        count 3 = 1
        set 0 6 9999
        count 3 = 10000
        set 1 6 9999
        set 2 6 9999
        set 3 6 9999
        set 4 6 9999
        set 5 6 9999
        set 6 6 9999
        set 7 6 9999
        count 3 = 79992
        """);
  }

  private static void status() {
    Edge.holds("Promise 36: which -1: all, 0 to 6; BEYOND: another one", """
        status -2 = BEYOND
        status 7 = BEYOND
        status MIN = BEYOND
        status MAX = BEYOND
        status -1 = 4
        status 6 = 0
        status 5 = 0
        """);
    Edge.holds("Promise 36: counted from then on",
        "status 0 = 0 | status 7 = BEYOND | status 0 = 1 | status -1 = 1 | status -2 = BEYOND | status 0 = 2");
    Edge.holds("Promise 36: undo() takes none back, nor does a new text", """
        image
        garment 6 = BEYOND
        undo = 0
        status 0 = 1
        tear = 1
        undo = NONE
        status 0 = 1
        status 3 = 1
        status -1 = 2
        basket 'x' = -1
        status -1 = 2
        """);
  }

  private static void statusOfEach() {
    Edge.holds("Promise 36: BEYOND to SIZE, each by itself", """
        garment 0
        status -1 = 0
        draw 1 1 = BEYOND
        status 0 = 1
        6x person 10 10
        person 10 10 = FULL
        status 1 = 1
        as 0 1 = KIND
        status 2 = 1
        undo = NONE
        status 3 = 1
        draw 0 1 = STATE
        status 4 = 1
        lays 0 = MISSING
        write 0 0 0 = MISSING
        status 5 = 2
        sheet 0 8 -1 = SIZE
        status 6 = 1
        status -1 = 8
        """);
    FeltedWash x = new FeltedWash();
    for (int i = 0; i < 510; i++) {
      x.garment(6);
    }
    Due.is("Promise 36: as often as they come: the 511th call", x.status(0), 510);
    Due.is("Promise 36: as often as they come: the 512th call", x.status(-1), 510);
  }
}
