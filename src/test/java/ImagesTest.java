/** Promises 32 to 36: image, undo, tear, count, status. */
public final class ImagesTest {
  public static void main(String[] args) {
    imageKeepsSectionOne();
    imageOfLatest();
    undoNone();
    undoLeavesTapeSheetsAndStatus();
    tearTellsWhetherSomethingWas();
    countByWhat();
    countBeyond();
    statusByFinding();
    statusBeyond();
    Due.end();
  }

  private static void imageKeepsSectionOne() {
    FeltedWash x = new FeltedWash();
    x.days(7);
    Due.heat(x, 60, 1);
    Due.add(x, 4, 150, 60, 20);
    Due.add(x, 5, 90, 80, 30);
    x.wash(0);
    x.draw(0, 50);
    x.days(1);
    x.person(50, 70);
    String kept = Due.all(x);
    Due.is("image()", x.image(), 1);
    Due.that("image changes nothing", kept.equals(Due.all(x)));
    for (int turn = 0; turn < 2; turn++) {
      x.days(50);
      Due.heat(x, 33, 0);
      x.turn(0, 2);
      x.set(0, 1, 11);
      x.set(0, 2, 12);
      x.set(0, 3, 13);
      x.set(0, 6, 14);
      x.wash(1);
      x.draw(1, 2);
      x.garment(3);
      x.person(99, 98);
      Due.is("undo()", x.undo(), 2);
      Due.that("it is as it was, time " + turn, kept.equals(Due.all(x)));
    }
    Due.is("a garment more", x.garment(3), 2);
    Due.toldAs("is new", x, 2, "3 100 100 10 0 0 0");
    Due.is("a person more", x.person(33, 34), 1);
    Due.is("has its size", x.size(1, 0), 33);
  }

  private static void imageOfLatest() {
    FeltedWash x = new FeltedWash();
    Due.is("an image of nothing", x.image(), 1);
    x.garment(1);
    x.garment(2);
    Due.is("another", x.image(), 1);
    x.garment(3);
    Due.is("the latest", x.undo(), 2);
    Due.is("which stays", x.undo(), 2);
    FeltedWash empty = new FeltedWash();
    empty.image();
    empty.garment(1);
    empty.person(10, 10);
    Due.is("undo to nothing", empty.undo(), 0);
    Due.is("no garment", empty.of(0, 0), Due.BEYOND);
    Due.is("nobody", empty.size(0, 0), Due.BEYOND);
  }

  private static void undoNone() {
    FeltedWash x = new FeltedWash();
    x.garment(4);
    Due.refused("undo()", x, Due.all(x), x.status(-1), x.undo(), Due.NONE);
    Due.is("NONE is counted", x.status(3), 1);
    x.image();
    x.tear();
    x.garment(4);
    Due.refused("undo() of what was torn", x, Due.all(x), x.status(-1), x.undo(), Due.NONE);
  }

  private static void undoLeavesTapeSheetsAndStatus() {
    FeltedWash x = new FeltedWash();
    Due.type(x, "wo");
    x.sheet(0, 16, 1);
    x.image();
    Due.type(x, "ol");
    x.write(0, 0, 44);
    x.sheet(1, 64, 2);
    x.garment(9);
    x.undo();
    Due.is("THE TAPE goes on", x.count(2), 4);
    Due.is("the sheet goes on", x.write(0, 0, 0), 44);
    Due.is("the other sheet is there", x.lays(1), 0);
    Due.is("the finding stays", x.status(-1), 1);
    Due.is("THE TAPE is told", x.basket(), 1);
    Due.is("undo keeps the image", x.undo(), 0);
  }

  private static void tearTellsWhetherSomethingWas() {
    FeltedWash x = new FeltedWash();
    Due.is("tear()", x.tear(), 0);
    x.image();
    x.undo();
    Due.is("tear() of one", x.tear(), 1);
    Due.is("tear() again", x.tear(), 0);
    x.image();
    x.image();
    Due.is("tear() of two", x.tear(), 1);
    Due.is("nothing is kept", x.tear(), 0);
    Due.is("no finding", x.status(-1), 0);
  }

  private static void countByWhat() {
    FeltedWash x = new FeltedWash();
    x.garment(1);
    x.garment(2);
    x.garment(3);
    x.person(50, 50);
    x.person(60, 60);
    x.feed(0, 4);
    x.feed(0, 1);
    Due.is("GARMENTS", x.count(0), 3);
    Due.is("PEOPLE", x.count(1), 2);
    Due.is("bytes", x.count(2), 5);
    Due.is("HOLES", x.count(3), 0);
    x.set(0, 6, 9999);
    x.set(2, 6, 9999);
    Due.is("HOLES of all together", x.count(3), 19998);
    x.wash(1);
    x.draw(1, 6);
    Due.is("one more", x.count(3), 19999);
  }

  private static void countBeyond() {
    FeltedWash x = new FeltedWash();
    int[] wrong = {-1, 4, Due.MIN, Due.MAX};
    for (int w : wrong) {
      Due.refused("count(" + w + ")", x, Due.all(x), x.status(-1), x.count(w), Due.BEYOND);
    }
  }

  private static void statusByFinding() {
    FeltedWash x = new FeltedWash();
    for (int i = 0; i < 7; i++) {
      x.person(10, 10);
      x.person(10, 10);
    }
    int[] due = {1, 8, 2, 3, 4, 5, 6};
    x.garment(-1);
    x.garment(3);
    for (int i = 0; i < 2; i++) {
      x.as(0, 1);
    }
    for (int i = 0; i < 3; i++) {
      x.undo();
    }
    for (int i = 0; i < 4; i++) {
      x.draw(0, 1);
    }
    for (int i = 0; i < 5; i++) {
      x.write(0, 0, 0);
    }
    for (int i = 0; i < 6; i++) {
      x.sheet(0, 8, -1);
    }
    int all = 0;
    for (int which = 0; which < 7; which++) {
      Due.is("status(" + which + ")", x.status(which), due[which]);
      all += due[which];
    }
    Due.is("status(-1)", x.status(-1), all);
    x.image();
    x.garment(-1);
    x.undo();
    Due.is("undo() takes none back", x.status(-1), all + 1);
    Due.is("nor of one", x.status(0), 2);
  }

  private static void statusBeyond() {
    FeltedWash x = new FeltedWash();
    int[] wrong = {-2, 7, Due.MIN, Due.MAX};
    for (int w : wrong) {
      Due.refused("status(" + w + ")", x, Due.all(x), x.status(-1), x.status(w), Due.BEYOND);
    }
    Due.is("counted from then on", x.status(0), 4);
  }
}
