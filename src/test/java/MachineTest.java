/** Promises 1 to 3: a new object, machine, now. */
public final class MachineTest {
  public static void main(String[] args) {
    aNewObject();
    machineAnswersWhatItWas();
    machineBeyond();
    nowTellsSets();
    nowBeyond();
    Due.end();
  }

  private static void aNewObject() {
    FeltedWash x = new FeltedWash();
    int[] atFirst = {0, 40, 0, 0, 0, 0};
    for (int what = 0; what <= 5; what++) {
      Due.is("new: now(" + what + ")", x.now(what), atFirst[what]);
    }
    for (int what = 0; what <= 3; what++) {
      Due.is("new: count(" + what + ")", x.count(what), 0);
    }
    for (int which = -1; which <= 6; which++) {
      Due.is("new: status(" + which + ")", x.status(which), 0);
    }
    Due.is("new: wipe()", x.wipe(), 0);
    Due.is("new: tear()", x.tear(), 0);
    Due.is("new: undo()", x.undo(), Due.NONE);
    for (int s = 0; s <= 3; s++) {
      Due.is("new: lays(" + s + ")", x.lays(s), Due.MISSING);
    }
    Due.is("new: of(0, 0)", x.of(0, 0), Due.BEYOND);
    Due.is("new: size(0, 0)", x.size(0, 0), Due.BEYOND);
    FeltedWash other = new FeltedWash();
    Due.is("two objects share nothing", other.status(-1), 0);
  }

  private static void machineAnswersWhatItWas() {
    FeltedWash x = new FeltedWash();
    Due.is("machine(0, 20)", x.machine(0, 20), 40);
    Due.is("machine(0, 95)", x.machine(0, 95), 20);
    Due.is("machine(0, 95) again", x.machine(0, 95), 95);
    Due.is("machine(1, 1)", x.machine(1, 1), 0);
    Due.is("machine(1, 1) again", x.machine(1, 1), 1);
    Due.is("now(1)", x.now(1), 95);
    Due.is("now(2)", x.now(2), 1);
    Due.is("machine(1, 0)", x.machine(1, 0), 1);
    Due.is("now(2) then", x.now(2), 0);
    Due.is("no finding", x.status(-1), 0);
  }

  private static void machineBeyond() {
    int[][] wrong = {
      {0, 19}, {0, 96}, {0, 0}, {0, -40}, {0, Due.MIN}, {0, Due.MAX},
      {1, -1}, {1, 2}, {1, 40}, {1, Due.MIN}, {1, Due.MAX},
      {-1, 40}, {2, 40}, {2, 0}, {2, 1}, {Due.MIN, 40}, {Due.MAX, 1}
    };
    FeltedWash x = new FeltedWash();
    x.machine(0, 50);
    x.machine(1, 1);
    for (int[] w : wrong) {
      String call = "machine(" + w[0] + ", " + w[1] + ")";
      Due.refused(call, x, Due.all(x), x.status(-1), x.machine(w[0], w[1]), Due.BEYOND);
    }
  }

  private static void nowTellsSets() {
    FeltedWash x = new FeltedWash();
    for (int i = 0; i < 8; i++) {
      x.garment(0);
    }
    x.wash(0);
    x.wash(7);
    Due.is("now(3): wet are 0 and 7", x.now(3), 129);
    x.set(2, 6, 1);
    x.set(5, 6, 9999);
    Due.is("now(4): holes in 2 and 5", x.now(4), 36);
    Due.is("now(5): nobody is there", x.now(5), 0);
    x.person(100, 100);
    Due.is("now(5): the dry and whole", x.now(5), 255 - 129 - 36);
    x.set(1, 1, 50);
    Due.is("now(5): 1 fits nobody", x.now(5), 255 - 129 - 36 - 2);
    x.person(50, 100);
    Due.is("now(5): 1 fits person 1", x.now(5), 255 - 129 - 36);
    x.days(3);
    Due.is("now(0)", x.now(0), 3);
    Due.is("now(3): all dry", x.now(3), 0);
    Due.is("now(5): the dry ones too", x.now(5), 255 - 36);
    x.person(95, 95);
    Due.is("now(5): some fit two people", x.now(5), 255 - 36);
    x.set(0, 6, 1);
    x.set(7, 6, 1);
    Due.is("now(4): the first and the last, too", x.now(4), 129 + 36);
  }

  private static void nowBeyond() {
    FeltedWash x = new FeltedWash();
    int[] wrong = {-1, 6, Due.MIN, Due.MAX};
    for (int w : wrong) {
      Due.refused("now(" + w + ")", x, Due.all(x), x.status(-1), x.now(w), Due.BEYOND);
    }
  }
}
