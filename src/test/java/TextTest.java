/** Promises 23 to 25: feed, wipe, basket. */
public final class TextTest {
  public static void main(String[] args) {
    feedTakesTheLowestBytes();
    feedFindings();
    wipeEmpties();
    kindsByName();
    sizesAndThickness();
    peopleAndMachine();
    itemsComeInTheirOrder();
    washOfThoseThereByThen();
    tokensAsLongAsCanBe();
    numbersToNineHundredNinetyNine();
    faultsOfItems();
    faultsOfBytes();
    endsTooEarly();
    faultsOfTooMany();
    aFaultChangesNothing();
    Due.end();
  }

  private static void feedTakesTheLowestBytes() {
    FeltedWash x = new FeltedWash();
    Due.is("feed(w, 1)", x.feed(0x7A7A7A77, 1), 1);
    Due.is("feed(oo, 2)", x.feed(0x7A7A6F6F, 2), 3);
    Due.is("feed(l;s, 3)", x.feed(0xFF6C3B73, 3), 6);
    Due.is("feed(ilk , 4)", x.feed(0x696C6B20, 4), 10);
    Due.is("count(2)", x.count(2), 10);
    Due.is("wool;silk", x.basket(), 2);
    Due.is("wool", x.of(0, 0), 1);
    Due.is("silk", x.of(1, 0), 3);
    Due.is("THE TAPE is empty", x.count(2), 0);
    Due.is("feed of what is below 0", x.feed(-1, 4), 4);
    Due.is("bytes above 127 begin no token", x.basket(), -1);
  }

  private static void feedFindings() {
    FeltedWash x = new FeltedWash();
    int[] wrong = {0, 5, -1, Due.MIN, Due.MAX};
    for (int w : wrong) {
      Due.refused("feed(32, " + w + ")", x, Due.all(x), x.status(-1), x.feed(32, w), Due.BEYOND);
    }
    for (int i = 0; i < 29; i++) {
      x.feed(0x20202020, 4);
    }
    Due.is("118", x.feed(0x2020, 2), 118);
    Due.refused("3 are too many", x, Due.all(x), x.status(-1), x.feed(0, 3), Due.FULL);
    Due.refused("4 are too many", x, Due.all(x), x.status(-1), x.feed(0, 4), Due.FULL);
    Due.is("FULL is counted", x.status(1), 2);
    Due.is("2 go", x.feed(0x2020, 2), 120);
    Due.refused("1 is too many", x, Due.all(x), x.status(-1), x.feed(0, 1), Due.FULL);
    Due.is("BEYOND is asked first", x.feed(0, 5), Due.BEYOND);
    Due.is("120 blanks", x.basket(), -121);
  }

  private static void wipeEmpties() {
    FeltedWash x = new FeltedWash();
    Due.type(x, "wool;");
    Due.is("wipe()", x.wipe(), 5);
    Due.is("wipe() again", x.wipe(), 0);
    Due.is("nothing came", x.count(0), 0);
    Due.is("then a text", Due.basket(x, "sock"), 1);
    Due.is("a sock", x.of(0, 0), 5);
  }

  private static void kindsByName() {
    FeltedWash x = new FeltedWash();
    Due.is("six kinds", Due.basket(x, "garment;wool;cotton;silk;jumper;sock"), 6);
    for (int k = 0; k < 6; k++) {
      Due.toldAs("by name", x, k, k + " 100 100 10 0 0 0");
    }
  }

  private static void sizesAndThickness() {
    FeltedWash x = new FeltedWash();
    Due.is("items", Due.basket(x, "jumper size 80 90 thick 12;sock thick 1;silk size 10 200;wool size 200 10 thick 99"), 4);
    Due.toldAs("size and thick", x, 0, "4 80 90 12 0 0 0");
    Due.toldAs("thick", x, 1, "5 100 100 1 0 0 0");
    Due.toldAs("size", x, 2, "3 10 200 10 0 0 0");
    Due.toldAs("ends", x, 3, "1 200 10 99 0 0 0");
  }

  private static void peopleAndMachine() {
    FeltedWash x = new FeltedWash();
    Due.is("items", Due.basket(x, "person 10 200;towels;degrees 20;person 200 10"), 4);
    Due.is("size(0, 0)", x.size(0, 0), 10);
    Due.is("size(0, 1)", x.size(0, 1), 200);
    Due.is("size(1, 0)", x.size(1, 0), 200);
    Due.is("size(1, 1)", x.size(1, 1), 10);
    Due.is("degrees 20", x.now(1), 20);
    Due.is("towels", x.now(2), 1);
    Due.is("items", Due.basket(x, "degrees 95;none"), 2);
    Due.is("degrees 95", x.now(1), 95);
    Due.is("none", x.now(2), 0);
    Due.is("people stay", x.count(1), 2);
  }

  private static void itemsComeInTheirOrder() {
    FeltedWash x = new FeltedWash();
    Due.is("items", Due.basket(x, "jumper;towels;degrees 60;wash 0;none;wash 0;degrees 40"), 7);
    Due.toldAs("washed with towels, then without", x, 0, "4 72 72 21 3 0 0");
    Due.is("degrees at the end", x.now(1), 40);
  }

  private static void washOfThoseThereByThen() {
    FeltedWash x = new FeltedWash();
    x.garment(2);
    x.wash(0);
    x.draw(0, 5);
    x.days(1);
    Due.is("one there before, one new", Due.basket(x, "cotton;wash 0;wash 1;wash 01"), 4);
    Due.toldAs("there before", x, 0, "2 101 95 10 3 0 0");
    Due.toldAs("new", x, 1, "2 97 97 10 3 0 0");
    Due.is("not there by then", Due.basket(x, "wash 2;cotton"), -6);
    Due.is("there by then", Due.basket(x, "cotton;wash 2"), 2);
    Due.is("none is there", Due.basket(new FeltedWash(), "wash 0"), -6);
  }

  private static void tokensAsLongAsCanBe() {
    Due.is("no blanks", Due.basket(new FeltedWash(), "wool size10 20thick5;person10 10;degrees30;wash0"), 4);
    Due.is("many blanks", Due.basket(new FeltedWash(), "   wool   size  10   10  ;  sock   "), 2);
    Due.is("two words without a blank", Due.basket(new FeltedWash(), "woolsize 10 10"), -1);
    Due.is("two numbers without a blank", Due.basket(new FeltedWash(), "wool size 1010"), -11);
    Due.is("a longer word", Due.basket(new FeltedWash(), "wools"), -1);
    Due.is("a shorter word", Due.basket(new FeltedWash(), "woo"), -1);
    Due.is("a word with a blank", Due.basket(new FeltedWash(), "wo ol"), -1);
    Due.is("a longer size", Due.basket(new FeltedWash(), "wool sizes 10 10"), -6);
  }

  private static void numbersToNineHundredNinetyNine() {
    FeltedWash x = new FeltedWash();
    Due.is("noughts ahead", Due.basket(x, "person 010 000000000000000000200;degrees 0020"), 2);
    Due.is("200", x.size(0, 1), 200);
    Due.is("20", x.now(1), 20);
    Due.is("999 may not be", Due.basket(x, "person 999 10"), -8);
    Due.is("1000 may not be", Due.basket(x, "person 1000 10"), -8);
    Due.is("no wrap", Due.basket(x, "person 4294967306 10"), -8);
    Due.is("no wrap of 64 bits", Due.basket(x, "person 18446744073709551626 10"), -8);
    Due.is("nor of a wash", Due.basket(x, "wool;wash 4294967296"), -11);
  }

  private static void faultsOfItems() {
    String[][] rows = {
      {"wool size 9 10", "10"}, {"wool size 201 10", "10"}, {"wool size 10 9", "13"}, {"wool size 10 201", "13"},
      {"wool thick 0", "11"}, {"wool thick 100", "11"}, {"wool thick 5 size 10 10", "13"}, {"wool thick 5 thick 5", "13"},
      {"wool size 10 10 size 10 10", "16"}, {"wool size 10 10 10", "16"}, {"wool thick 5 5", "13"}, {"wool 5", "5"},
      {"wool size thick", "10"}, {"wool size ;", "10"}, {"wool size 10 ;", "13"}, {"wool thick ;", "11"}, {"wool wool", "5"},
      {"wool size 10 10 person 10 10", "16"}, {"person 9 10", "7"}, {"person 10 9", "10"}, {"person 201 10", "7"},
      {"person 10 201", "10"}, {"person size 10 10", "7"}, {"person 10 10 10", "13"}, {"person 10 10 thick 5", "13"},
      {"person ;", "7"}, {"degrees 19", "8"}, {"degrees 96", "8"}, {"degrees ;", "8"}, {"degrees towels", "8"},
      {"degrees 40 40", "11"}, {"towels 1", "7"}, {"towels none", "7"}, {"none 0", "5"}, {"wash", "4"}, {"wash wool", "5"},
      {"wash ;", "5"}, {"wool;wash 1", "10"}, {"wool;wash 0 0", "12"}, {"wool;wash 8", "10"}, {"size 10 10", "0"},
      {"thick 5", "0"}, {"40", "0"}, {";", "0"}, {" ;wool", "1"}, {"wool;;wool", "5"}, {"wool ; ; wool", "7"}, {"towel", "0"},
      {"nones", "0"}, {"washes 0", "0"}, {"degree 40", "0"}, {"persons 10 10", "0"}, {"x", "0"}, {"wool;hat", "5"},
      {"pool", "0"}, {"milk", "0"}, {"rock", "0"}, {"soca", "0"}, {"wash0;", "4"}, {"wool bize 10 10", "5"}
    };
    for (String[] row : rows) {
      Due.is("'" + row[0] + "'", Due.basket(new FeltedWash(), row[0]), -1 - Integer.parseInt(row[1]));
    }
  }

  private static void faultsOfBytes() {
    int[] bytes = {0, 1, 9, 10, 13, 31, 33, '-', '+', '.', ',', ':', '/', '<', '@', 'A', 'Z', '[', '`', '{', 127, 128, 160, 255};
    for (int b : bytes) {
      FeltedWash x = new FeltedWash();
      x.feed(b, 1);
      Due.is("byte " + b, x.basket(), -1);
      x.feed(b, 1);
      Due.type(x, "wool");
      Due.is("byte " + b + " ahead", x.basket(), -1);
      Due.type(x, "wool ");
      x.feed(b, 1);
      Due.is("byte " + b + " behind", x.basket(), -6);
      Due.type(x, "wool size 1");
      x.feed(b, 1);
      Due.type(x, "0 10");
      Due.is("byte " + b + " in a number: 1 may not be", x.basket(), -11);
      Due.type(x, "wool size 10");
      x.feed(b, 1);
      Due.type(x, "10");
      Due.is("byte " + b + " between numbers", x.basket(), -13);
    }
  }

  private static void endsTooEarly() {
    String[] texts = {
      "", " ", "    ", "wool;", "wool; ", "wool size", "wool size ", "wool size 10", "wool size 10  ", "wool thick", "person",
      "person 10", "person 10 ", "degrees", "wash", "towels;", "wool;degrees"
    };
    for (String text : texts) {
      Due.is("'" + text + "' ends too early", Due.basket(new FeltedWash(), text), -1 - text.length());
    }
  }

  private static void faultsOfTooMany() {
    FeltedWash x = new FeltedWash();
    for (int i = 0; i < 7; i++) {
      x.garment(0);
    }
    Due.is("a 9th at its own place", Due.basket(x, "wool; sock size 1"), -7);
    Due.is("7 stay", x.count(0), 7);
    Due.is("an 8th", Due.basket(x, "wool"), 1);
    Due.is("a 9th", Due.basket(x, "wool"), -1);
    Due.is("another word is one too", Due.basket(x, "degrees 50;garment"), -12);
    Due.is("people go on", Due.basket(x, "person 10 10;person 20 20;person 30 30;person 40 40;person 50 50"), 5);
    Due.is("a 7th at its own place", Due.basket(x, "person 60 60;person 9 9"), -14);
    Due.is("a 6th", Due.basket(x, "person 60 60"), 1);
    Due.is("a 7th", Due.basket(x, "towels;person"), -8);
    Due.is("8 at once", Due.basket(new FeltedWash(), "wool;wool;wool;wool;wool;wool;wool;wool"), 8);
    Due.is("9 at once", Due.basket(new FeltedWash(), "wool;wool;wool;wool;wool;wool;wool;wool;wool"), -41);
    Due.is("120 bytes", Due.basket(new FeltedWash(), "none;".repeat(23) + "wool "), 24);
    Due.is("6 people at once", Due.basket(new FeltedWash(), "person 10 10;".repeat(5) + "person 10 10"), 6);
    Due.is("7 people at once", Due.basket(new FeltedWash(), "person 10 10;".repeat(6) + "person 10 10"), -79);
  }

  private static void aFaultChangesNothing() {
    FeltedWash x = new FeltedWash();
    x.garment(4);
    x.person(50, 50);
    x.wash(0);
    x.image();
    String before = Due.all(x);
    Due.is("a fault at the end", Due.basket(x, "degrees 90;towels;wash 0;sock;person 10 10;wash 0;x"), -51);
    Due.that("nothing changes but THE TAPE", before.equals(Due.all(x)));
    Due.is("THE TAPE is empty", x.wipe(), 0);
    Due.is("no finding", x.status(-1), 0);
    Due.is("then a text", Due.basket(x, "sock"), 1);
    Due.is("the image is kept", x.undo(), 1);
    Due.that("as it was", before.equals(Due.all(x)));
  }
}
