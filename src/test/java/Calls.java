/** The calls of the face by their names, for tests that tell calls in a text or take them by chance. */
final class Calls {
  static final String[] NAMES = {
    "machine", "now", "garment", "of", "set", "wash", "draw", "turn", "as", "person", "size", "fits", "days", "on", "again",
    "washes", "warmest", "pull", "kind", "dressed", "shortest", "feed", "wipe", "basket", "sheet", "write", "copy", "lays",
    "book", "read", "image", "undo", "tear", "count", "status"
  };

  private Calls() {}

  /** Arguments are five at least; v is what write puts. */
  static long ask(FeltedWash x, String name, int[] a, long v) {
    return switch (name) {
      case "machine" -> x.machine(a[0], a[1]);
      case "now" -> x.now(a[0]);
      case "garment" -> x.garment(a[0]);
      case "of" -> x.of(a[0], a[1]);
      case "set" -> x.set(a[0], a[1], a[2]);
      case "wash" -> x.wash(a[0]);
      case "draw" -> x.draw(a[0], a[1]);
      case "turn" -> x.turn(a[0], a[1]);
      case "as" -> x.as(a[0], a[1]);
      case "person" -> x.person(a[0], a[1]);
      case "size" -> x.size(a[0], a[1]);
      case "fits" -> x.fits(a[0]);
      case "days" -> x.days(a[0]);
      case "on" -> x.on(a[0], a[1], a[2]);
      case "again" -> x.again(a[0], a[1], a[2]);
      case "washes" -> x.washes(a[0], a[1]);
      case "warmest" -> x.warmest(a[0], a[1]);
      case "pull" -> x.pull(a[0], a[1]);
      case "kind" -> x.kind(a[0], a[1]);
      case "dressed" -> x.dressed(a[0]);
      case "shortest" -> x.shortest(a[0]);
      case "feed" -> x.feed(a[0], a[1]);
      case "wipe" -> x.wipe();
      case "basket" -> x.basket();
      case "sheet" -> x.sheet(a[0], a[1], a[2]);
      case "write" -> x.write(a[0], a[1], v);
      case "copy" -> x.copy(a[0], a[1], a[2], a[3], a[4]);
      case "lays" -> x.lays(a[0]);
      case "book" -> x.book(a[0], a[1]);
      case "read" -> x.read(a[0], a[1]);
      case "image" -> x.image();
      case "undo" -> x.undo();
      case "tear" -> x.tear();
      case "count" -> x.count(a[0]);
      case "status" -> x.status(a[0]);
      default -> throw new IllegalArgumentException("no call " + name);
    };
  }
}
