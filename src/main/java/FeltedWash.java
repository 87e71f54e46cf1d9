/**
 * A basket of garments that shrink and felt as they are washed, and the people whom they fit.
 *
 * <p>Everything that a call works with is made in the constructor and used again, so that no call
 * makes an object.
 */
public final class FeltedWash {
  private static final int BEYOND = -1000000001;
  private static final int FULL = -1000000002;
  private static final int KIND = -1000000003;
  private static final int NONE = -1000000004;
  private static final int STATE = -1000000005;
  private static final int MISSING = -1000000006;
  private static final int SIZE = -1000000007;
  private static final int FINDINGS = 7;

  private static final int KINDS = 6;
  private static final int MOST_GARMENTS = 8;
  private static final int MOST_PEOPLE = 6;
  private static final int LEAST_SPAN = 10;
  private static final int MOST_SPAN = 200;
  private static final int LEAST_THICK = 1;
  private static final int MOST_THICK = 99;
  private static final int MOST_HOLES = 9999;
  private static final int LEAST_DEGREES = 20;
  private static final int MOST_DEGREES = 95;
  private static final int LAST_DAY = 99999;
  private static final int DAYS_TO_DRY = 3;
  private static final int MOST_DAYS = 100;
  private static final int MOST_WASHES = 40;
  private static final int MOST_DRAW = 50;
  private static final int SHEETS = 4;
  private static final int MOST_NUMBERS = 40;
  private static final int MOST_BYTES = 120;

  private final Basket current;
  private final Basket kept;
  private final Basket draft;
  private final Garment trial;
  private final Tape tape;
  private final Sheet[] sheets;
  private final int[] found;
  private boolean somethingKept;

  public FeltedWash() {
    Kind[] kinds = Kind.inOrder();
    current = new Basket(kinds);
    kept = new Basket(kinds);
    draft = new Basket(kinds);
    trial = new Garment(kinds[0]);
    tape = new Tape();
    sheets = new Sheet[SHEETS];
    for (int s = 0; s < SHEETS; s++) {
      sheets[s] = new Sheet();
    }
    found = new int[FINDINGS];
    somethingKept = false;
  }

  // ---- the machine

  public int machine(int what, int v) {
    if (what == 0 && within(v, LEAST_DEGREES, MOST_DEGREES)) {
      int was = current.degrees;
      current.degrees = v;
      return was;
    }
    if (what == 1 && within(v, 0, 1)) {
      int was = current.towels;
      current.towels = v;
      return was;
    }
    return refuse(BEYOND);
  }

  public int now(int what) {
    switch (what) {
      case 0: return current.day;
      case 1: return current.degrees;
      case 2: return current.towels;
      case 3: return current.wetOnes();
      case 4: return current.onesWithHoles();
      case 5: return current.onesForAnybody();
      default: return refuse(BEYOND);
    }
  }

  // ---- garments

  public int garment(int kind) {
    if (!isKind(kind)) {
      return refuse(BEYOND);
    }
    Garment added = current.addGarment(kind);
    return added == null ? refuse(FULL) : current.garmentCount - 1;
  }

  public int of(int garment, int what) {
    Garment one = current.garmentAt(garment);
    if (one == null) {
      return refuse(BEYOND);
    }
    int shrinks = one.sort.shrinks(current.degrees, current.towels);
    switch (what) {
      case 0: return one.sort.number;
      case 1: return one.length;
      case 2: return one.breadth;
      case 3: return one.thick;
      case 4: return one.wet;
      case 5: return one.drawn;
      case 6: return one.holes;
      case 7: return shrinks;
      case 8: return one.sort.felts(shrinks);
      case 9: return one.sort.bears(one.thick, one.holes);
      case 10: return one.sort.keeps();
      default: return refuse(BEYOND);
    }
  }

  public int set(int garment, int what, int v) {
    Garment one = current.garmentAt(garment);
    if (one == null || !maySet(what, v)) {
      return refuse(BEYOND);
    }
    int was;
    switch (what) {
      case 1:
        was = one.length;
        one.length = v;
        return was;
      case 2:
        was = one.breadth;
        one.breadth = v;
        return was;
      case 3:
        was = one.thick;
        one.thick = v;
        return was;
      default:
        was = one.holes;
        one.holes = v;
        return was;
    }
  }

  public int wash(int garment) {
    Garment one = current.garmentAt(garment);
    if (one == null) {
      return refuse(BEYOND);
    }
    one.goThroughWash(current.degrees, current.towels);
    return one.length;
  }

  public int draw(int garment, int n) {
    Garment one = current.garmentAt(garment);
    if (one == null || !within(n, 1, MOST_DRAW)) {
      return refuse(BEYOND);
    }
    if (one.wet == 0) {
      return refuse(STATE);
    }
    one.stretch(n);
    return one.length;
  }

  public int turn(int garment, int kind) {
    Garment one = current.garmentAt(garment);
    Kind sort = current.kindAt(kind);
    if (one == null || sort == null) {
      return refuse(BEYOND);
    }
    int was = one.sort.number;
    one.sort = sort;
    return was;
  }

  public int as(int garment, int kind) {
    Garment one = current.garmentAt(garment);
    if (one == null || !isKind(kind)) {
      return refuse(BEYOND);
    }
    return one.sort.isOrIsUnder(kind) ? one.thick : refuse(KIND);
  }

  // ---- people

  public int person(int length, int breadth) {
    if (!isSpan(length) || !isSpan(breadth)) {
      return refuse(BEYOND);
    }
    Person added = current.addPerson(length, breadth);
    return added == null ? refuse(FULL) : current.personCount - 1;
  }

  public int size(int person, int what) {
    Person one = current.personAt(person);
    if (one == null || !within(what, 0, 1)) {
      return refuse(BEYOND);
    }
    return what == 0 ? one.length : one.breadth;
  }

  public int fits(int person) {
    Person one = current.personAt(person);
    return one == null ? refuse(BEYOND) : current.onesFor(one);
  }

  // ---- days

  public int days(int n) {
    if (!within(n, 1, MOST_DAYS)) {
      return refuse(BEYOND);
    }
    if (current.day > LAST_DAY - n) {
      return refuse(STATE);
    }
    current.letDaysGo(n);
    return current.wetOnes();
  }

  public int on(int garment, int n, int what) {
    Garment one = current.garmentAt(garment);
    if (one == null || !within(n, 0, MOST_DAYS)) {
      return refuse(BEYOND);
    }
    trial.become(one);
    trial.dryFor(n);
    switch (what) {
      case 0: return trial.length;
      case 1: return trial.breadth;
      case 2: return trial.wet;
      default: return refuse(BEYOND);
    }
  }

  public int again(int garment, int n, int what) {
    Garment one = current.garmentAt(garment);
    if (one == null || !within(n, 0, MOST_WASHES)) {
      return refuse(BEYOND);
    }
    tryWashes(one, n);
    switch (what) {
      case 0: return trial.length;
      case 1: return trial.breadth;
      case 2: return trial.thick;
      default: return refuse(BEYOND);
    }
  }

  public int washes(int garment, int person) {
    Garment one = current.garmentAt(garment);
    Person wearer = current.personAt(person);
    if (one == null || wearer == null) {
      return refuse(BEYOND);
    }
    for (int n = 1; n <= MOST_WASHES; n++) {
      if (wouldSuit(one, wearer, n, current.degrees, 0)) {
        return n;
      }
    }
    return refuse(NONE);
  }

  // ---- what is best

  public int warmest(int garment, int person) {
    Garment one = current.garmentAt(garment);
    Person wearer = current.personAt(person);
    if (one == null || wearer == null) {
      return refuse(BEYOND);
    }
    for (int degrees = MOST_DEGREES; degrees >= LEAST_DEGREES; degrees--) {
      if (wouldSuit(one, wearer, 1, degrees, 0)) {
        return degrees;
      }
    }
    return refuse(NONE);
  }

  public int pull(int garment, int person) {
    Garment one = current.garmentAt(garment);
    Person wearer = current.personAt(person);
    if (one == null || wearer == null) {
      return refuse(BEYOND);
    }
    for (int n = 0; n <= MOST_DRAW; n++) {
      if (wouldSuit(one, wearer, 1, current.degrees, n)) {
        return n;
      }
    }
    return refuse(NONE);
  }

  public int kind(int garment, int n) {
    Garment one = current.garmentAt(garment);
    if (one == null || !within(n, 1, MOST_WASHES)) {
      return refuse(BEYOND);
    }
    int best = 0;
    int longest = -1;
    for (int k = 0; k < KINDS; k++) {
      if (tryAs(one, k)) {
        trial.goThroughWashes(n, current.degrees, current.towels);
        if (trial.length > longest) {
          longest = trial.length;
          best = k;
        }
      }
    }
    return best;
  }

  public int dressed(int n) {
    if (!within(n, 0, MOST_DAYS)) {
      return refuse(BEYOND);
    }
    if (current.personCount == 0) {
      return refuse(NONE);
    }
    draft.become(current);
    draft.letDaysGo(n);
    return draft.bestDressed();
  }

  public int shortest(int n) {
    if (!within(n, 0, MOST_WASHES)) {
      return refuse(BEYOND);
    }
    int best = -1;
    int least = MOST_SPAN + 1;
    for (int i = 0; i < current.garmentCount; i++) {
      Garment one = current.garmentAt(i);
      if (one != null) {
        tryWashes(one, n);
        if (trial.length < least) {
          least = trial.length;
          best = i;
        }
      }
    }
    return best < 0 ? refuse(NONE) : best;
  }

  // ---- the text

  public int feed(int bytes, int n) {
    if (!within(n, 1, 4)) {
      return refuse(BEYOND);
    }
    if (tape.count > MOST_BYTES - n) {
      return refuse(FULL);
    }
    for (int k = n - 1; k >= 0; k--) {
      tape.append((byte) (bytes >> (8 * k)));
    }
    return tape.count;
  }

  public int wipe() {
    return tape.clear();
  }

  public int basket() {
    draft.become(current);
    int told = tape.tellInto(draft);
    tape.clear();
    if (told >= 0) {
      current.become(draft);
    }
    return told;
  }

  // ---- sheets

  public int sheet(int s, int bits, int n) {
    Sheet one = sheetAt(s);
    if (one == null || (bits != 0 && bits != 8 && bits != 16 && bits != 64)) {
      return refuse(BEYOND);
    }
    if (n < 0) {
      return refuse(SIZE);
    }
    if (n > MOST_NUMBERS) {
      return refuse(BEYOND);
    }
    one.beginAnew(bits, n);
    return one.count;
  }

  public long write(int s, int i, long v) {
    Sheet one = sheetAt(s);
    if (one == null) {
      return refuse(BEYOND);
    }
    if (one.isMissing()) {
      return refuse(MISSING);
    }
    if (!within(i, 0, one.count - 1)) {
      return refuse(BEYOND);
    }
    long was = one.numbers[i];
    one.put(i, v);
    return was;
  }

  public int copy(int s, int from, int t, int to, int n) {
    Sheet source = sheetAt(s);
    Sheet target = sheetAt(t);
    if (source == null || target == null) {
      return refuse(BEYOND);
    }
    if (source.isMissing() || target.isMissing()) {
      return refuse(MISSING);
    }
    if (source.bits != target.bits) {
      return refuse(KIND);
    }
    if (!source.hasRun(from, n) || !target.hasRun(to, n)) {
      return refuse(BEYOND);
    }
    System.arraycopy(source.numbers, from, target.numbers, to, n);
    return n;
  }

  public int lays(int s) {
    Sheet one = sheetAt(s);
    if (one == null) {
      return refuse(BEYOND);
    }
    if (one.isMissing()) {
      return refuse(MISSING);
    }
    int came = 0;
    for (int i = 0; i < one.count; i++) {
      long v = one.numbers[i];
      Garment to = current.garmentAt(i);
      if (to != null && v >= LEAST_SPAN && v <= MOST_SPAN) {
        to.length = (int) v;
        came++;
      }
    }
    return came;
  }

  public int book(int s, int garment) {
    Sheet page = sheetAt(s);
    if (page == null) {
      return refuse(BEYOND);
    }
    if (page.isMissing()) {
      return refuse(MISSING);
    }
    Garment one = current.garmentAt(garment);
    if (one == null) {
      return refuse(BEYOND);
    }
    trial.become(one);
    for (int i = 0; i < page.count; i++) {
      page.put(i, trial.length);
      trial.goThroughWash(current.degrees, current.towels);
    }
    return page.count;
  }

  public int read(int s, int garment) {
    Sheet page = sheetAt(s);
    if (page == null) {
      return refuse(BEYOND);
    }
    if (page.isMissing()) {
      return refuse(MISSING);
    }
    Garment one = current.garmentAt(garment);
    if (one == null) {
      return refuse(BEYOND);
    }
    int pairs = 0;
    for (int k = 0; k < KINDS; k++) {
      for (int degrees = LEAST_DEGREES; degrees <= MOST_DEGREES; degrees++) {
        if (explains(page, one, k, degrees)) {
          pairs++;
        }
      }
    }
    return pairs;
  }

  // ---- images

  public int image() {
    kept.become(current);
    somethingKept = true;
    return 1;
  }

  public int undo() {
    if (!somethingKept) {
      return refuse(NONE);
    }
    current.become(kept);
    return current.garmentCount;
  }

  public int tear() {
    int was = somethingKept ? 1 : 0;
    somethingKept = false;
    return was;
  }

  public int count(int what) {
    switch (what) {
      case 0: return current.garmentCount;
      case 1: return current.personCount;
      case 2: return tape.count;
      case 3: return current.allHoles();
      default: return refuse(BEYOND);
    }
  }

  public int status(int which) {
    if (which >= 0 && which < FINDINGS) {
      return found[which];
    }
    if (which != -1) {
      return refuse(BEYOND);
    }
    int all = 0;
    for (int f = 0; f < FINDINGS; f++) {
      all += found[f];
    }
    return all;
  }

  // ---- what the calls share

  private int refuse(int finding) {
    int which = BEYOND - finding;
    if (which >= 0 && which < FINDINGS) {
      found[which]++;
    }
    return finding;
  }

  private Sheet sheetAt(int s) {
    return s >= 0 && s < SHEETS ? sheets[s] : null;
  }

  private void tryWashes(Garment one, int n) {
    trial.become(one);
    trial.goThroughWashes(n, current.degrees, current.towels);
  }

  private boolean wouldSuit(Garment one, Person wearer, int washes, int degrees, int drawnBy) {
    trial.become(one);
    trial.goThroughWashes(washes, degrees, current.towels);
    if (drawnBy > 0) {
      trial.stretch(drawnBy);
    }
    trial.dryFor(DAYS_TO_DRY);
    return trial.suits(wearer);
  }

  private boolean tryAs(Garment one, int kind) {
    Kind sort = current.kindAt(kind);
    if (sort == null) {
      return false;
    }
    trial.become(one);
    trial.sort = sort;
    return true;
  }

  private boolean explains(Sheet page, Garment one, int kind, int degrees) {
    if (!tryAs(one, kind)) {
      return false;
    }
    for (int i = 0; i < page.count; i++) {
      if (page.numbers[i] != trial.length) {
        return false;
      }
      trial.goThroughWash(degrees, current.towels);
    }
    return true;
  }

  private static boolean within(int v, int least, int most) {
    return v >= least && v <= most;
  }

  private static boolean isKind(int kind) {
    return within(kind, 0, KINDS - 1);
  }

  private static boolean isSpan(int v) {
    return within(v, LEAST_SPAN, MOST_SPAN);
  }

  private static boolean maySet(int what, int v) {
    switch (what) {
      case 1: return isSpan(v);
      case 2: return isSpan(v);
      case 3: return within(v, LEAST_THICK, MOST_THICK);
      case 6: return within(v, 0, MOST_HOLES);
      default: return false;
    }
  }

  /** The kind GARMENT; a kind under it tells only what is other with it. */
  private static class Kind {
    final int number;
    final Kind above;

    Kind(int number, Kind above) {
      this.number = number;
      this.above = above;
    }

    static Kind[] inOrder() {
      Kind garment = new Kind(0, null);
      Kind wool = new Wool(1, garment);
      Kind cotton = new Cotton(2, garment);
      Kind silk = new Silk(3, garment);
      Kind[] all = new Kind[KINDS];
      all[0] = garment;
      all[1] = wool;
      all[2] = cotton;
      all[3] = silk;
      all[4] = new Jumper(4, wool);
      all[5] = new Sock(5, cotton);
      return all;
    }

    final boolean isOrIsUnder(int kind) {
      for (Kind k = this; k != null; k = k.above) {
        if (k.number == kind) {
          return true;
        }
      }
      return false;
    }

    int shrinks(int degrees, int towels) {
      return 0;
    }

    int felts(int shrinks) {
      return 0;
    }

    int bears(int thick, int holes) {
      return 10;
    }

    int keeps() {
      return 50;
    }
  }

  private static class Wool extends Kind {
    Wool(int number, Kind above) {
      super(number, above);
    }

    int shrinks(int degrees, int towels) {
      return degrees > 40 ? (degrees - 40) / 2 : 0;
    }

    int felts(int shrinks) {
      return shrinks / 3;
    }

    int bears(int thick, int holes) {
      return super.bears(thick, holes) + thick / 4;
    }
  }

  private static class Cotton extends Kind {
    Cotton(int number, Kind above) {
      super(number, above);
    }

    int shrinks(int degrees, int towels) {
      return degrees / 20;
    }

    int bears(int thick, int holes) {
      return 5;
    }

    int keeps() {
      return 20;
    }
  }

  private static final class Silk extends Kind {
    Silk(int number, Kind above) {
      super(number, above);
    }

    int shrinks(int degrees, int towels) {
      return degrees > 60 ? 50 : 0;
    }

    int bears(int thick, int holes) {
      return super.bears(thick, holes) - 7;
    }

    int keeps() {
      return super.keeps() + 50;
    }
  }

  private static final class Jumper extends Wool {
    Jumper(int number, Kind above) {
      super(number, above);
    }

    int shrinks(int degrees, int towels) {
      int asWool = super.shrinks(degrees, towels);
      return towels == 1 ? asWool + asWool : asWool;
    }

    int felts(int shrinks) {
      return super.felts(shrinks) + (shrinks > 0 ? 1 : 0);
    }

    int bears(int thick, int holes) {
      return 2 * super.bears(thick, holes);
    }

    int keeps() {
      return super.keeps() - 10;
    }
  }

  private static final class Sock extends Cotton {
    Sock(int number, Kind above) {
      super(number, above);
    }

    int shrinks(int degrees, int towels) {
      return super.shrinks(degrees, towels) + (degrees >= 60 ? 1 : 0);
    }

    int felts(int shrinks) {
      return super.felts(shrinks) + 2;
    }

    int bears(int thick, int holes) {
      return super.bears(thick, holes) + holes;
    }
  }

  private static final class Garment {
    Kind sort;
    int length;
    int breadth;
    int thick;
    int wet;
    int drawn;
    int holes;

    Garment(Kind sort) {
      this.sort = sort;
    }

    void beNew(Kind kind) {
      sort = kind;
      length = 100;
      breadth = 100;
      thick = 10;
      wet = 0;
      drawn = 0;
      holes = 0;
    }

    void become(Garment other) {
      sort = other.sort;
      length = other.length;
      breadth = other.breadth;
      thick = other.thick;
      wet = other.wet;
      drawn = other.drawn;
      holes = other.holes;
    }

    void goThroughWash(int degrees, int towels) {
      int shrinks = sort.shrinks(degrees, towels);
      length = Math.max(LEAST_SPAN, length - length * shrinks / 100);
      breadth = Math.max(LEAST_SPAN, breadth - breadth * shrinks / 100);
      thick = Math.min(MOST_THICK, thick + sort.felts(shrinks));
      wet = DAYS_TO_DRY;
      drawn = 0;
    }

    void goThroughWashes(int n, int degrees, int towels) {
      for (int i = 0; i < n; i++) {
        goThroughWash(degrees, towels);
      }
    }

    void stretch(int n) {
      length = Math.min(MOST_SPAN, length + n);
      breadth = Math.max(LEAST_SPAN, breadth - n / 2);
      drawn += n;
      if (drawn > sort.bears(thick, holes)) {
        holes = Math.min(MOST_HOLES, holes + 1);
      }
    }

    void dryFor(int days) {
      for (int i = 0; i < days; i++) {
        dryOneDay();
      }
    }

    private void dryOneDay() {
      if (wet == 0) {
        return;
      }
      wet--;
      if (wet == 0) {
        length = Math.max(LEAST_SPAN, length - drawn * (100 - sort.keeps()) / 100);
        drawn = 0;
      }
    }

    boolean suits(Person one) {
      return wet == 0
          && holes == 0
          && within(length, one.length, one.length + 10)
          && within(breadth, one.breadth, one.breadth + 15);
    }
  }

  private static final class Person {
    int length;
    int breadth;
  }

  /** All that an image keeps: the machine, the garments, the people and the day. */
  private static final class Basket {
    private final Kind[] kinds;
    private final Garment[] garments;
    private final Person[] people;
    int garmentCount;
    int personCount;
    int day;
    int degrees;
    int towels;

    Basket(Kind[] kinds) {
      this.kinds = kinds;
      garments = new Garment[MOST_GARMENTS];
      for (int i = 0; i < MOST_GARMENTS; i++) {
        garments[i] = new Garment(kinds[0]);
      }
      people = new Person[MOST_PEOPLE];
      for (int i = 0; i < MOST_PEOPLE; i++) {
        people[i] = new Person();
      }
      degrees = 40;
    }

    void become(Basket other) {
      garmentCount = other.garmentCount;
      personCount = other.personCount;
      day = other.day;
      degrees = other.degrees;
      towels = other.towels;
      for (int i = 0; i < MOST_GARMENTS; i++) {
        garments[i].become(other.garments[i]);
      }
      for (int i = 0; i < MOST_PEOPLE; i++) {
        people[i].length = other.people[i].length;
        people[i].breadth = other.people[i].breadth;
      }
    }

    Kind kindAt(int kind) {
      return kind >= 0 && kind < kinds.length ? kinds[kind] : null;
    }

    Garment garmentAt(int i) {
      return i >= 0 && i < garmentCount && i < garments.length ? garments[i] : null;
    }

    Person personAt(int i) {
      return i >= 0 && i < personCount && i < people.length ? people[i] : null;
    }

    Garment addGarment(int kind) {
      Kind sort = kindAt(kind);
      if (sort == null || garmentCount >= MOST_GARMENTS) {
        return null;
      }
      Garment one = garments[garmentCount];
      one.beNew(sort);
      garmentCount++;
      return one;
    }

    Person addPerson(int length, int breadth) {
      if (personCount >= MOST_PEOPLE) {
        return null;
      }
      Person one = people[personCount];
      one.length = length;
      one.breadth = breadth;
      personCount++;
      return one;
    }

    void letDaysGo(int n) {
      for (int i = 0; i < garmentCount; i++) {
        garments[i].dryFor(n);
      }
      day += n;
    }

    int wetOnes() {
      int ones = 0;
      for (int i = 0; i < garmentCount; i++) {
        if (garments[i].wet > 0) {
          ones |= 1 << i;
        }
      }
      return ones;
    }

    int onesWithHoles() {
      int ones = 0;
      for (int i = 0; i < garmentCount; i++) {
        if (garments[i].holes > 0) {
          ones |= 1 << i;
        }
      }
      return ones;
    }

    int onesFor(Person wearer) {
      int ones = 0;
      for (int i = 0; i < garmentCount; i++) {
        if (garments[i].suits(wearer)) {
          ones |= 1 << i;
        }
      }
      return ones;
    }

    int onesForAnybody() {
      int ones = 0;
      for (int i = 0; i < personCount; i++) {
        ones |= onesFor(people[i]);
      }
      return ones;
    }

    int bestDressed() {
      int best = 0;
      int most = -1;
      for (int i = 0; i < personCount; i++) {
        int has = Integer.bitCount(onesFor(people[i]));
        if (has > most) {
          most = has;
          best = i;
        }
      }
      return best;
    }

    int allHoles() {
      int all = 0;
      for (int i = 0; i < garmentCount; i++) {
        all += garments[i].holes;
      }
      return all;
    }
  }

  private static final class Sheet {
    final long[] numbers = new long[MOST_NUMBERS];
    int bits;
    int count;

    void beginAnew(int newBits, int n) {
      bits = newBits;
      count = newBits == 0 ? 0 : n;
      for (int i = 0; i < MOST_NUMBERS; i++) {
        numbers[i] = 0L;
      }
    }

    boolean isMissing() {
      return bits == 0;
    }

    boolean hasRun(int from, int n) {
      return from >= 0 && n >= 0 && n <= count - from;
    }

    void put(int i, long v) {
      if (i >= 0 && i < count) {
        numbers[i] = lowestBits(v);
      }
    }

    /** Numbers of few bits are signed, as those of 64 bits are. */
    private long lowestBits(long v) {
      switch (bits) {
        case 8: return (byte) v;
        case 16: return (short) v;
        default: return v;
      }
    }
  }

  /**
   * THE TAPE, and the reading of it. The token at hand stands from start to end; where the text
   * ends, start is how many bytes there are, so that a fault's place is always start.
   */
  private static final class Tape {
    private static final int END = 0;
    private static final int WORD = 1;
    private static final int NUMBER = 2;
    private static final int SIGN = 3;
    private static final int NO_TOKEN = 4;
    /** What a NUMBER above 999 is held to, as its digits may be many; no item takes it. */
    private static final int TOO_MUCH = 1000;

    private final byte[] bytes = new byte[MOST_BYTES];
    int count;
    private int type;
    private int start;
    private int end;
    private int value;
    private int firstSpan;
    private int secondSpan;

    void append(byte b) {
      if (count < MOST_BYTES) {
        bytes[count] = b;
        count++;
      }
    }

    int clear() {
      int had = count;
      count = 0;
      return had;
    }

    /** How many items there were, or -1 less the place of the fault. */
    int tellInto(Basket to) {
      end = 0;
      nextToken();
      for (int items = 1; items <= MOST_BYTES; items++) {
        if (!takeItem(to)) {
          break;
        }
        if (type == END) {
          return items;
        }
        if (type != SIGN) {
          break;
        }
        nextToken();
      }
      return -1 - start;
    }

    private boolean takeItem(Basket to) {
      int kind = kindNamed();
      if (kind >= 0) {
        Garment one = to.addGarment(kind);
        if (one == null) {
          return false;
        }
        nextToken();
        return takeSpans(one) && takeThickness(one);
      }
      if (isWord("person")) {
        return takePerson(to);
      }
      if (isWord("degrees")) {
        return takeDegrees(to);
      }
      if (isWord("wash")) {
        return takeWash(to);
      }
      if (isWord("towels")) {
        to.towels = 1;
        nextToken();
        return true;
      }
      if (isWord("none")) {
        to.towels = 0;
        nextToken();
        return true;
      }
      return false;
    }

    private int kindNamed() {
      if (isWord("garment")) {
        return 0;
      }
      if (isWord("wool")) {
        return 1;
      }
      if (isWord("cotton")) {
        return 2;
      }
      if (isWord("silk")) {
        return 3;
      }
      if (isWord("jumper")) {
        return 4;
      }
      return isWord("sock") ? 5 : -1;
    }

    private boolean takeSpans(Garment one) {
      if (!isWord("size")) {
        return true;
      }
      nextToken();
      if (!takeTwoSpans()) {
        return false;
      }
      one.length = firstSpan;
      one.breadth = secondSpan;
      return true;
    }

    private boolean takeThickness(Garment one) {
      if (!isWord("thick")) {
        return true;
      }
      nextToken();
      if (!isNumber(LEAST_THICK, MOST_THICK)) {
        return false;
      }
      one.thick = value;
      nextToken();
      return true;
    }

    private boolean takePerson(Basket to) {
      if (to.personCount >= MOST_PEOPLE) {
        return false;
      }
      nextToken();
      return takeTwoSpans() && to.addPerson(firstSpan, secondSpan) != null;
    }

    private boolean takeTwoSpans() {
      if (!isNumber(LEAST_SPAN, MOST_SPAN)) {
        return false;
      }
      firstSpan = value;
      nextToken();
      if (!isNumber(LEAST_SPAN, MOST_SPAN)) {
        return false;
      }
      secondSpan = value;
      nextToken();
      return true;
    }

    private boolean takeDegrees(Basket to) {
      nextToken();
      if (!isNumber(LEAST_DEGREES, MOST_DEGREES)) {
        return false;
      }
      to.degrees = value;
      nextToken();
      return true;
    }

    private boolean takeWash(Basket to) {
      nextToken();
      if (type != NUMBER) {
        return false;
      }
      Garment one = to.garmentAt(value);
      if (one == null) {
        return false;
      }
      one.goThroughWash(to.degrees, to.towels);
      nextToken();
      return true;
    }

    private boolean isNumber(int least, int most) {
      return type == NUMBER && within(value, least, most);
    }

    private boolean isWord(String word) {
      if (type != WORD || end - start != word.length()) {
        return false;
      }
      for (int i = 0; i < word.length(); i++) {
        if (byteAt(start + i) != word.charAt(i)) {
          return false;
        }
      }
      return true;
    }

    private void nextToken() {
      start = end;
      while (start < count && byteAt(start) == ' ') {
        start++;
      }
      end = start;
      if (start >= count) {
        type = END;
      } else if (isLetter(byteAt(start))) {
        type = WORD;
        while (end < count && isLetter(byteAt(end))) {
          end++;
        }
      } else if (isDigit(byteAt(start))) {
        type = NUMBER;
        value = 0;
        while (end < count && isDigit(byteAt(end))) {
          value = Math.min(TOO_MUCH, value * 10 + byteAt(end) - '0');
          end++;
        }
      } else {
        type = byteAt(start) == ';' ? SIGN : NO_TOKEN;
        end = start + 1;
      }
    }

    private int byteAt(int i) {
      return i >= 0 && i < count && i < bytes.length ? bytes[i] : -1;
    }

    private static boolean isLetter(int b) {
      return b >= 'a' && b <= 'z';
    }

    private static boolean isDigit(int b) {
      return b >= '0' && b <= '9';
    }
  }
}
