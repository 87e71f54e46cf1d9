/** The boundaries of promises 23 to 25, and of THE TEXT of a BASKET in "Terms". */
public final class EdgeTextTest {
  private static final String SCENE = """
      machine 0 60
      garment 4
      wash 0
      draw 0 7
      person 50 60
      image
      person 70 80
      sheet 2 8 2
      """;

  public static void main(String[] args) {
    feed();
    feedFull();
    wipe();
    basket();
    aFault();
    wordsAndNumbers();
    bytesThatBeginNoToken();
    lettersAndDigits();
    blanks();
    items();
    garmentItems();
    personItems();
    machineItems();
    washItems();
    endsTooEarly();
    theFirstFaultCounts();
    Due.end();
  }

  /** A text on a new object, and how many ITEMS it has. */
  private static void told(String sentence, String text, int items) {
    Edge.holds(sentence, "basket '" + text + "' = " + items);
  }

  /** A text on a new object, and the place of its FAULT. */
  private static void fault(String sentence, String text, int place) {
    told(sentence, text, -1 - place);
  }

  private static void feed() {
    Edge.range("Promise 23: n 1 to 4", SCENE, "feed 0x6F6F6F6F *", 1, 4);
    Edge.range("Promise 23: n 1 to 4", SCENE + "type 'wool;'", "feed 0 *", 1, 4);
    Edge.holds("Promise 23: how many it has", """
        feed 32 1 = 1
        feed 0x2020 2 = 3
        feed 0x202020 3 = 6
        feed 0x20202020 4 = 10
        feed 32 0 = BEYOND
        feed 32 5 = BEYOND
        count 2 = 10
        """);
    Edge.holds("Promise 23: the n lowest bytes, the highest of these first", """
        feed 0x78787877 1 = 1
        feed 0x78786F6F 2 = 3
        feed 0x786C3B73 3 = 6
        feed 0x696C6B20 4 = 10
        basket = 2
        of 0 0 = 1
        of 1 0 = 3
        """, "feed MIN 4 = 4 | basket = -1", "feed -1 1 = 1 | basket = -1", "feed MAX 4 = 4 | basket = -1",
        "feed 0xDFDFDFDF 1 = 1 | basket = -1", "type 'woo' | feed -148 1 = 4 | basket = 1");
  }

  private static void feedFull() {
    String full = "30x feed 0x20202020 4";
    Edge.holds("Promise 23: FULL: THE TAPE has at most 120 bytes", "29x feed 0x20202020 4 = 116 | feed 0x20202020 4 = 120"
        + " | feed 32 1 = FULL | feed 32 4 = FULL | count 2 = 120",
        "29x feed 0x20202020 4 = 116 | feed 32 1 = 117 | feed 0 4 = FULL | feed 32 3 = 120 | feed 32 1 = FULL",
        "29x feed 0x20202020 4 = 116 | feed 0x2020 2 = 118 | feed 0 3 = FULL | feed 0x2020 2 = 120 | feed 32 2 = FULL",
        "29x feed 0x20202020 4 = 116 | feed 32 3 = 119 | feed 0 2 = FULL | feed 32 1 = 120 | feed 32 1 = FULL");
    Edge.holds("Promise 23: BEYOND is asked ahead of FULL", full + """

        feed 32 0 = BEYOND
        feed 32 5 = BEYOND
        feed 32 -1 = BEYOND
        feed 32 MIN = BEYOND
        feed 32 MAX = BEYOND
        feed 32 1 = FULL
        """);
    Edge.holds("Promise 23: FULL no more once it is empty", full + " | wipe = 120 | feed 32 4 = 4",
        full + " | basket = -121 | feed 32 4 = 4");
  }

  private static void wipe() {
    Edge.holds("Promise 24: how many it had: none, 1, 120", "wipe = 0 | feed 119 1 | wipe = 1 | wipe = 0 | count 2 = 0",
        "30x feed 0x20202020 4 | wipe = 120 | wipe = 0 | basket 'wool' = 1 | count 0 = 1 | of 0 0 = 1");
    Edge.holds("Promise 24: nothing else", SCENE + "type 'wool' | wipe = 4 | count 0 = 1");
  }

  private static void basket() {
    Edge.holds("Promise 25: how many ITEMS, and empty then", SCENE + """
        basket 'silk' = 1
        count 2 = 0
        basket = -1
        basket 'sock;person 10 10' = 2
        basket 'wool;wool;wool' = 3
        count 0 = 6
        count 1 = 3
        undo = 1
        count 1 = 1
        """);
    Edge.holds("Promise 25: THE TAPE to its last byte", "basket '" + "none;".repeat(23) + " sock' = 24 | of 0 0 = 5",
        "basket '" + "none;".repeat(23) + "sock ' = 24", "basket '" + "none;".repeat(24) + "' = -121",
        "basket '" + "none;".repeat(23) + "socks' = -116");
    Edge.holds("Promise 25: TEXT: one ITEM of 120 bytes", "basket 'wool" + " ".repeat(116) + "' = 1",
        "basket '" + " ".repeat(116) + "wool' = 1", "basket '" + "w".repeat(120) + "' = -1",
        "basket 'degrees " + "0".repeat(110) + "95' = 1 | now 1 = 95", "basket 'degrees " + "9".repeat(112) + "' = -9");
  }

  private static void aFault() {
    Edge.holds("Promise 25: With a FAULT: nothing changes but that THE TAPE is empty; no finding", SCENE + """
        basket 'towels;degrees 95;sock size 10 10;person 10 10;wash 0;wash 1;none;x' = -67
        count 2 = 0
        now 2 = 0
        now 1 = 60
        basket 'wool' = 1
        of 1 0 = 1
        """, SCENE + """
        type 'wash 0;'
        count 2 = 7
        basket = -8
        count 2 = 0
        of 0 4 = 3
        of 0 5 = 7
        """, SCENE + """
        basket = -1
        type 'wash 0'
        basket = 1
        of 0 5 = 0
        """);
  }

  private static void wordsAndNumbers() {
    String longest = "TOKENS, each as long as can be";
    told(longest, "wool size 10 10thick 5", 1);
    told(longest, "wool size10 10thick5;person10 10;degrees20;towels;wash0", 5);
    fault(longest, "woolsize 10 10", 0);
    fault(longest, "woolwool", 0);
    fault(longest, "wools", 0);
    fault(longest, "woo l", 0);
    fault(longest, "wool sizethick 5", 5);
    fault(longest, "wool size 10 10 thicks 5", 16);
    fault(longest, "wool size 1010", 10);
    fault(longest, "wool size 1 0 10", 10);
    fault(longest, "none0", 4);
    String most = "NUMBERS (digits, 999 at most)";
    String[] calls = {"person ", "person 10 ", "wool size ", "wool size 10 ", "wool thick ", "degrees ", "wool;wash "};
    for (String call : calls) {
      for (String number : new String[] {"999", "1000", "4294967316", "18446744073709551636", "0".repeat(50) + "999"}) {
        fault(most, call + number, call.length());
      }
    }
    fault(most, "wool 999", 5);
    fault(most, "wool 1000", 5);
    fault(most, "1000", 0);
    Edge.holds(most + ": its value counts, not its digits", "basket 'degrees 00000000000020' = 1 | now 1 = 20",
        "basket 'wool thick 0099;wash 000' = 2 | of 0 3 = 99");
  }

  private static void bytesThatBeginNoToken() {
    for (int b = 0; b <= 255; b++) {
      boolean token = b >= 'a' && b <= 'z' || b >= '0' && b <= '9' || b == ';' || b == ' ';
      Edge.holds("FAULT: a byte that begins no TOKEN, or a TOKEN that can't stand there",
          "feed " + b + " 1 | basket = " + (b == ' ' ? -2 : -1), "type 'wool ' | feed " + b + " 1 | basket = "
          + (b == ' ' ? 1 : b == ';' ? -7 : -6));
      if (!token) {
        Edge.holds("FAULT: a byte that begins no TOKEN, within others",
            Edge.run("type 'wo' | feed $b 1 | type 'ol' | basket = -1", "$b", b),
            Edge.run("type 'wool' | feed $b 1 | basket = -5", "$b", b),
            Edge.run("type 'wool size 10' | feed $b 1 | type '10' | basket = -13", "$b", b),
            Edge.run("type 'wool size 10 1' | feed $b 1 | type '0' | basket = -14", "$b", b),
            Edge.run("type 'wool;' | feed $b 1 | type 'wool' | basket = -6", "$b", b));
      }
    }
  }

  /** The first and the last of them; the bytes beside them are in bytesThatBeginNoToken. */
  private static void lettersAndDigits() {
    Edge.holds("WORDS (letters a to z): both ends", "basket 'a' = -1", "basket 'wool z' = -6", "basket 'degrees 40 a' = -12",
        "basket 'garment;silk;cotton' = 3", "basket 'wool size 10 10' = 1");
    Edge.holds("a letter behind a number begins another TOKEN: a and z",
        "basket 'degrees 40a' = -11", "basket 'degrees 40z' = -11");
    Edge.holds("a digit behind a word begins another TOKEN: 0 and 9", "basket 'wool0' = -5", "basket 'wool9' = -5",
        "basket 'degrees90' = 1 | now 1 = 90");
    Edge.holds("digits 0 to 9 all count", "basket 'person 102 34' = 1 | size 0 0 = 102 | size 0 1 = 34",
        "basket 'person 56 78' = 1 | size 0 0 = 56 | size 0 1 = 78",
        "basket 'person 199 90' = 1 | size 0 0 = 199 | size 0 1 = 90");
  }

  private static void blanks() {
    String between = "blanks may stand between";
    told(between, "wool;sock", 2);
    told(between, "wool ;sock", 2);
    told(between, "wool; sock", 2);
    told(between, "  wool  ;  sock  ", 2);
    told(between, " wool  size   10    10     thick      5 ", 1);
    fault(between, "", 0);
    fault(between, " ", 1);
    fault(between, "   ", 3);
    fault(between, "   x", 3);
    fault(between, "wool   x", 7);
  }

  private static void items() {
    String text = "TEXT: ITEM { ; ITEM }";
    told(text, "wool", 1);
    told(text, "wool;sock", 2);
    fault(text, "", 0);
    fault(text, ";", 0);
    fault(text, ";wool", 0);
    fault(text, " ; wool", 1);
    fault(text, "wool;", 5);
    fault(text, "wool; ", 6);
    fault(text, "wool;;sock", 5);
    fault(text, "wool; ;sock", 6);
    fault(text, "wool sock", 5);
    fault(text, "wool,sock", 4);
    fault(text, "towels none", 7);
    fault(text, "none towels", 5);
    String another = "FAULT: another WORD";
    String[] words = {
      "size", "thick", "garments", "woo", "cottons", "sil", "jump", "socks", "persons", "degree", "towel", "non", "was", "forty",
      "kind", "a", "garmenu", "xool", "vool", "jumpes", "rock"
    };
    for (String word : words) {
      fault(another, word, 0);
      fault(another, "wool;" + word, 5);
      fault(another, "person 10 10 " + word, 13);
    }
  }

  private static void garmentItems() {
    String[] kinds = {"garment", "wool", "cotton", "silk", "jumper", "sock"};
    for (int k = 0; k <= 5; k++) {
      Edge.holds("ITEM: the name of a KIND: one more", "basket '" + kinds[k] + "' = 1 | count 0 = 1 | of 0 0 = " + k
          + " | of 0 1 = 100 | of 0 2 = 100 | of 0 3 = 10 | of 0 4 = 0 | of 0 5 = 0 | of 0 6 = 0");
    }
    String size = "perhaps two NUMBERS behind size (LONG and BROAD, 10 to 200)";
    fault(size, "wool size 9 100", 10);
    Edge.holds(size, "basket 'wool size 10 100' = 1 | of 0 1 = 10 | of 0 2 = 100",
        "basket 'wool size 200 100' = 1 | of 0 1 = 200", "basket 'wool size 100 10' = 1 | of 0 1 = 100 | of 0 2 = 10",
        "basket 'wool size 100 200' = 1 | of 0 2 = 200");
    fault(size, "wool size 201 100", 10);
    fault(size, "wool size 100 9", 14);
    fault(size, "wool size 100 201", 14);
    fault(size, "wool size 0 0", 10);
    fault(size, "wool size 10", 12);
    fault(size, "wool size 10 10 10", 16);
    fault(size, "wool size 10 10 size 10 10", 16);
    fault(size, "wool size 10;sock", 12);
    fault(size, "wool size;sock", 9);
    fault(size, "wool 10 10", 5);
    String thick = "perhaps thick and a NUMBER (1 to 99)";
    fault(thick, "wool thick 0", 11);
    Edge.holds(thick, "basket 'wool thick 1' = 1 | of 0 3 = 1", "basket 'wool thick 99' = 1 | of 0 3 = 99",
        "basket 'wool size 20 30 thick 2' = 1 | of 0 1 = 20 | of 0 2 = 30 | of 0 3 = 2");
    fault(thick, "wool thick 100", 11);
    fault(thick, "wool thick 1 1", 13);
    fault(thick, "wool thick 1 size 10 10", 13);
    fault(thick, "wool thick 1 thick 1", 13);
    fault(thick, "wool thick;sock", 10);
    String ninth = "FAULT: the name of a KIND for a 9th: its own";
    told(ninth, "wool;wool;wool;wool;wool;wool;wool;sock", 8);
    fault(ninth, "wool;wool;wool;wool;wool;wool;wool;wool; sock size 1", 41);
    for (String kind : kinds) {
      Edge.holds(ninth, "7x garment 0 | basket '" + kind + "' = 1 | count 0 = 8 | basket '" + kind + "' = -1 | basket 'none;"
          + kind + "' = -6 | basket 'wash 7' = 1", "7x garment 0 | basket 'wool;" + kind + "' = -6 | count 0 = 7");
    }
    Edge.holds(ninth + ", though what is behind it can't stand, either", "8x garment 0 | basket 'wool size 9 x' = -1");
  }

  private static void personItems() {
    String person = "person, two NUMBERS (10 to 200): one more";
    fault(person, "person 9 100", 7);
    Edge.holds(person, "basket 'person 10 200' = 1 | size 0 0 = 10 | size 0 1 = 200",
        "basket 'person 200 10' = 1 | size 0 0 = 200 | size 0 1 = 10 | count 1 = 1");
    fault(person, "person 201 100", 7);
    fault(person, "person 100 9", 11);
    fault(person, "person 100 201", 11);
    fault(person, "person 100 100 100", 15);
    fault(person, "person 100;none", 10);
    fault(person, "person;none", 6);
    fault(person, "person size 10 10", 7);
    fault(person, "person 10 10 thick 1", 13);
    String seventh = "FAULT: person for a 7th: its own";
    Edge.holds(seventh, "5x person 10 10 | basket 'person 20 30' = 1 | count 1 = 6 | size 5 1 = 30 | basket 'person 10 10' = -1"
        + " | basket 'none; person 9' = -7", "5x person 10 10 | basket 'person 10 10;person 10 10' = -14 | count 1 = 5",
        "basket '" + "person 10 10;".repeat(5) + "person 10 10' = 6 | count 1 = 6",
        "basket '" + "person 10 10;".repeat(6) + "person 10 10' = -79 | count 1 = 0", "6x person 10 10 | basket 'wool' = 1",
        "8x garment 0 | basket 'person 10 10' = 1");
  }

  private static void machineItems() {
    String degrees = "degrees and a NUMBER (20 to 95)";
    fault(degrees, "degrees 19", 8);
    Edge.holds(degrees, "basket 'degrees 20' = 1 | now 1 = 20", "basket 'degrees 95' = 1 | now 1 = 95",
        "basket 'degrees 95;degrees 96' = -20 | now 1 = 40");
    fault(degrees, "degrees 96", 8);
    fault(degrees, "degrees 0", 8);
    fault(degrees, "degrees;none", 7);
    fault(degrees, "degrees 40 40", 11);
    Edge.holds("towels or none", "basket 'towels' = 1 | now 2 = 1 | basket 'towels' = 1 | now 2 = 1 | basket 'none' = 1"
        + " | now 2 = 0 | basket 'none' = 1 | now 2 = 0", "basket 'towels;none' = 2 | now 2 = 0",
        "basket 'none;towels' = 2 | now 2 = 1");
    fault("towels or none", "towels 1", 7);
    fault("towels or none", "none 0", 5);
  }

  private static void washItems() {
    String wash = "wash, a NUMBER (a garment there by then): TO WASH";
    fault(wash, "wash 0", 5);
    told(wash, "wool;wash 0", 2);
    fault(wash, "wool;wash 1", 10);
    fault(wash, "wash 0;wool", 5);
    fault(wash, "wool;wash 1;wool", 10);
    fault(wash, "wool;wash 0 0", 12);
    fault(wash, "wool;wash", 9);
    fault(wash, "wool;wash wool", 10);
    fault(wash, "wool;wash;wool", 9);
    Edge.holds(wash, """
        garment 2
        basket 'wash 0' = 1
        of 0 1 = 98
        of 0 4 = 3
        basket 'wash 1' = -6
        basket 'wool;wash 1' = 2
        of 1 4 = 3
        """, "8x garment 0 | basket 'wash 7' = 1 | now 3 = 128 | basket 'wash 8' = -6");
    Edge.holds(wash + ", as the machine is by then",
        "basket 'wool;degrees 60;wash 0;degrees 20' = 4 | of 0 1 = 90 | of 0 3 = 13",
        "machine 0 60 | basket 'jumper;wash 0;towels;wash 0' = 4 | of 0 1 = 72 | of 0 3 = 21",
        "basket 'silk size 19 200;degrees 61;wash 0' = 3 | of 0 1 = 10 | of 0 2 = 100",
        "basket 'sock thick 98;wash 0' = 2 | of 0 3 = 99");
  }

  private static void endsTooEarly() {
    String[] texts = {
      "", " ", "wool;", "wool; ", "wool size", "wool size ", "wool size 10", "wool size 10 ", "wool thick", "wool thick  ",
      "person", "person ", "person 10", "person 10   ", "degrees", "degrees ", "wash", "wash ", "none;", "towels; ",
      "person 10 10;", "wool size 10 10 thick"
    };
    for (String text : texts) {
      fault("FAULT: how many bytes there are if it ends too early", text, text.length());
    }
    told("and where it doesn't", "wool size 10 10", 1);
    told("and where it doesn't", "wool size 10 10 ", 1);
  }

  private static void theFirstFaultCounts() {
    String first = "FAULT: the first byte of the first TOKEN that can't stand there";
    fault(first, "wool size 9 9", 10);
    fault(first, "person 300 300", 7);
    fault(first, "hat;cap", 0);
    fault(first, "wool;hat;cap", 5);
    fault(first, "wool !hat", 5);
    fault(first, "wool hat!", 5);
    fault(first, "degrees 19!", 8);
    fault(first, "wool size !9", 10);
    fault(first, "wool size 10;wool size", 12);
  }
}
