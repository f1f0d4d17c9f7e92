/** A town of cells, walls, people and lamps that keep what they have lit. */
public final class LampsThatRemember {
  private static final int NOBODY = -1;
  private static final int OTHER = -2;
  private static final int STATE = -3;
  private static final int BELOW = -4;
  private static final int ROOM = -6;
  private static final int NONE = -9;
  private static final int SWAP_REFUSAL = 1000000000;
  private static final int LAST_MINUTE = 9999;
  private static final int MOST_LAMPS = 6;
  private static final int MOST_PEOPLE = 4;
  private static final int MOST_WALLS = 18;
  private static final int GREATEST_RANGE = 5;
  private static final int GREATEST_LETTER = 255;
  private static final int GREATEST_IN_ROW = 99;
  private static final int LONGEST_ROW = 12;
  private static final int MOST_WALKS = 20;
  private static final int MINUTES_OF_A_WALK = 12;
  private static final int WITHOUT_SIGN = 0x7FFFFFFF;

  private final Letters letters = new Letters();
  private final int[] row = new int[LONGEST_ROW];
  private final int[] refusals = new int[7];
  private final Town taken = new Town();
  private Town here = new Town();
  private Town spare = new Town();
  private int inRow;
  private boolean isTaken;

  public LampsThatRemember() {
  }

  // ---- what is told and changed ----

  public int letter(int c) {
    if (c < 0) {
      return refuse(BELOW);
    }
    if (c > GREATEST_LETTER || letters.isFull()) {
      return refuse(ROOM);
    }
    return letters.add(c);
  }

  public int town() {
    // The statements are tried on a copy, so that a fault leaves nothing of them behind.
    spare.become(here);
    int answer = letters.tellTo(spare);
    letters.clear();
    if (answer >= 0) {
      Town before = here;
      here = spare;
      spare = before;
    }
    return answer;
  }

  public int wall(int cell) {
    return counted(here.turnWall(cell));
  }

  public int person(int cell) {
    return counted(here.addPerson(cell));
  }

  public int go(int person, int cell) {
    return counted(here.walk(person, cell));
  }

  public int light(int lamp, int is) {
    Lamp one = here.lampAt(lamp);
    if (one == null) {
      return refuse(NOBODY);
    }
    if (is != 0 && is != 1) {
      return refuse(OTHER);
    }
    int was = yes(one.lit);
    one.lit = is == 1;
    return was;
  }

  public int row(int v) {
    if (v < 0) {
      return refuse(BELOW);
    }
    if (v > GREATEST_IN_ROW || inRow < 0 || inRow >= row.length) {
      return refuse(ROOM);
    }
    row[inRow] = v;
    inRow++;
    return inRow;
  }

  public int image() {
    taken.become(here);
    isTaken = true;
    return here.minute;
  }

  public int on() {
    if (!isTaken) {
      return refuse(STATE);
    }
    here.become(taken);
    return here.minute;
  }

  // ---- what a lamp is, lights and has kept ----

  public int lamp(int lamp, int what) {
    Lamp one = here.lampAt(lamp);
    if (one == null) {
      return refuse(NOBODY);
    }
    switch (what) {
      case 0:
        return one.kind();
      case 1:
        return one.cellNow(here);
      case 2:
        return one.range;
      case 3:
        return yes(one.lit);
      case 4:
        return one.size;
      case 5:
        return Cells.howMany(one.glow(here));
      default:
        return refuse(OTHER);
    }
  }

  public int lights(int lamp, int cell) {
    Lamp one = here.lampAt(lamp);
    if (one == null || !Cells.isOne(cell)) {
      return refuse(NOBODY);
    }
    return yes(Cells.has(one.glow(here), cell));
  }

  public int shown(int lamp, int i, int what) {
    Lamp one = here.lampAt(lamp);
    if (one == null || i < 0 || i >= one.size) {
      return refuse(NOBODY);
    }
    int scene = one.sceneShown(i);
    switch (what) {
      case 0:
        return Scene.whoIn(scene);
      case 1:
        return Scene.cellIn(scene);
      case 2:
        return Scene.minuteIn(scene);
      default:
        return refuse(OTHER);
    }
  }

  public int seen(int lamp) {
    Lamp one = here.lampAt(lamp);
    return one == null ? refuse(NOBODY) : one.everSeen();
  }

  public int forget(int lamp, int minute) {
    Lamp one = here.lampAt(lamp);
    if (one == null) {
      return refuse(NOBODY);
    }
    int refusal = outside(minute, 0, LAST_MINUTE);
    if (refusal < 0) {
      return refuse(refusal);
    }
    int place = one.placeOfMinute(minute);
    return place < 0 ? NONE : one.room() - one.size + place + 1;
  }

  public int two(int one, int other) {
    Lamp first = here.lampAt(one);
    Lamp second = here.lampAt(other);
    if (first == null || second == null) {
      return refuse(NOBODY);
    }
    int both = 0;
    for (int i = 0; i < first.size; i++) {
      int scene = first.sceneAt(i);
      int place = second.placeOfMinute(Scene.minuteIn(scene));
      if (place >= 0 && Scene.cellIn(second.sceneAt(place)) == Scene.cellIn(scene)) {
        both++;
      }
    }
    return both;
  }

  // ---- ways ----

  public int where(int person) {
    return here.isPerson(person) ? here.cellOf(person) : refuse(NOBODY);
  }

  public int steps(int from, int to) {
    if (!Cells.isOne(from) || !Cells.isOne(to)) {
      return refuse(NOBODY);
    }
    return Cells.fewestSteps(from, to, here.free());
  }

  public int unlit(int from, int to, int but) {
    if (!Cells.isOne(from) || !Cells.isOne(to)) {
      return refuse(NOBODY);
    }
    int refusal = outside(but, 0, (1 << MOST_LAMPS) - 1);
    if (refusal < 0) {
      return refuse(refusal);
    }
    return Cells.fewestSteps(from, to, here.free() & ~here.litBut(but));
  }

  // ---- who has been seen, and who learns it ----

  public int by(int person, int minute) {
    int refusal = noPersonAt(person, minute);
    if (refusal < 0) {
      return refuse(refusal);
    }
    int lamps = 0;
    for (int i = 0; i < here.lampCount; i++) {
      Lamp one = here.lampAt(i);
      if (one != null && one.sawAt(person, minute)) {
        lamps |= 1 << i;
      }
    }
    return lamps;
  }

  public int knows(int person, int cell, int minute) {
    if (!here.isPerson(person) || !Cells.isOne(cell)) {
      return refuse(NOBODY);
    }
    int refusal = outside(minute, 0, LAST_MINUTE);
    if (refusal < 0) {
      return refuse(refusal);
    }
    int scene = Scene.of(person, cell, minute);
    int people = 0;
    for (int i = 0; i < here.lampCount; i++) {
      Lamp one = here.lampAt(i);
      if (one != null && one.hasScene(scene)) {
        people |= here.peopleOn(one.glow(here));
      }
    }
    return people;
  }

  public int known(int person) {
    if (!here.isPerson(person)) {
      return refuse(NOBODY);
    }
    return here.unlikeScenesShownTo(Cells.only(here.cellOf(person)));
  }

  public int allKnow() {
    return here.unlikeScenesShownTo(here.peopled());
  }

  public int whereAt(int person, int minute, int i) {
    if (!here.isPerson(person)) {
      return refuse(NOBODY);
    }
    if (minute < 0 || i < -1) {
      return refuse(BELOW);
    }
    if (minute > LAST_MINUTE) {
      return refuse(ROOM);
    }
    long cells = here.whereabouts(person, minute);
    return i < 0 ? Cells.howMany(cells) : Cells.byNumber(cells, i);
  }

  public int next(int person, int minute) {
    int refusal = noPersonAt(person, minute);
    if (refusal < 0) {
      return refuse(refusal);
    }
    return evenestLamp(here.whereabouts(person, minute));
  }

  private int evenestLamp(long cells) {
    if (cells == 0) {
      return NONE;
    }
    int best = NONE;
    int bestLesser = -1;
    for (int i = 0; i < here.lampCount; i++) {
      Lamp one = here.lampAt(i);
      if (one != null) {
        long glow = one.glow(here);
        int lesser = Math.min(Cells.howMany(cells & glow), Cells.howMany(cells & ~glow));
        if (lesser > bestLesser) {
          best = i;
          bestLesser = lesser;
        }
      }
    }
    return best;
  }

  // ---- lamps looked at in mind ----

  public int fewest() {
    long wanted = 0;
    for (int i = 0; i < inRow; i++) {
      if (!Cells.isOne(inRowAt(i))) {
        return refuse(STATE);
      }
      wanted |= Cells.only(inRowAt(i));
    }
    int best = NONE;
    for (int set = 0; set < 1 << here.lampCount; set++) {
      boolean fewer = best < 0 || Integer.bitCount(set) < Integer.bitCount(best);
      if (fewer && (wanted & ~here.glowOf(set)) == 0) {
        best = set;
      }
    }
    return best;
  }

  public int oneMore(int range, int what) {
    int refusal = outside(range, 0, GREATEST_RANGE);
    if (refusal < 0) {
      return refuse(refusal);
    }
    if (what != 0 && what != 1) {
      return refuse(OTHER);
    }
    long dark = ~here.litBut(0);
    int bestCell = 0;
    int most = -1;
    for (int cell = 0; cell < Cells.COUNT; cell++) {
      int more = Cells.howMany(Cells.within(cell, range, here.free()) & dark);
      if (more > most) {
        most = more;
        bestCell = cell;
      }
    }
    return what == 0 ? most : bestCell;
  }

  public int swap(int one, int other) {
    Lamp first = here.lampAt(one);
    Lamp second = here.lampAt(other);
    if (first == null || second == null) {
      return SWAP_REFUSAL - refuse(NOBODY);
    }
    int now = Cells.howMany(here.litBut(0));
    changeCells(first, second);
    int then = Cells.howMany(here.litBut(0));
    changeCells(first, second);
    return then - now;
  }

  private static void changeCells(Lamp first, Lamp second) {
    int cell = first.ownCell;
    first.ownCell = second.ownCell;
    second.ownCell = cell;
  }

  // ---- walks looked at in mind ----

  public int judge(int person) {
    if (!here.isPerson(person)) {
      return refuse(NOBODY);
    }
    int ahead = here.cellOf(person);
    for (int i = 0; i < inRow; i++) {
      int cell = inRowAt(i);
      if (!Cells.has(Cells.within(ahead, 1, here.free()), cell)) {
        return i;
      }
      ahead = cell;
    }
    return NONE;
  }

  public int caught(int person) {
    if (!here.isPerson(person)) {
      return refuse(NOBODY);
    }
    long lit = here.litBut(0);
    int first = NONE;
    for (int i = 0; i < inRow && first < 0; i++) {
      if (Cells.has(lit, inRowAt(i))) {
        first = i;
      }
    }
    inRow = 0;
    return first;
  }

  public int lots(int person, int n, int z) {
    if (!here.isPerson(person)) {
      return refuse(NOBODY);
    }
    int refusal = outside(n, 1, MOST_WALKS);
    if (refusal < 0) {
      return refuse(refusal);
    }
    int total = 0;
    for (int i = 0; i < here.lampCount; i++) {
      Lamp one = here.lampAt(i);
      if (one != null && one.lit && one.kind() != Lamp.MOON) {
        // The same seed walks the same ways, so each lamp can be asked for itself.
        total += minutesIn(one.glow(here), here.cellOf(person), n, z);
      }
    }
    return total;
  }

  private int minutesIn(long glow, int from, int walks, int z) {
    int minutes = 0;
    int seed = z;
    for (int walk = 0; walk < walks; walk++) {
      int cell = from;
      for (int minute = 0; minute < MINUTES_OF_A_WALK; minute++) {
        seed = seed * 1664525 + 1013904223;
        int to = Cells.towards(cell, ((seed & WITHOUT_SIGN) / 256) % 4);
        cell = Cells.has(here.free(), to) ? to : cell;
        minutes += yes(Cells.has(glow, cell));
      }
    }
    return minutes;
  }

  // ---- counts and refusals ----

  public int count(int what) {
    switch (what) {
      case 0:
        return here.lampCount;
      case 1:
        return here.peopleCount;
      case 2:
        return Cells.howMany(here.walls);
      case 3:
        return here.minute;
      case 4:
        return here.allScenes();
      case 5:
        return Cells.howMany(here.litBut(0));
      case 6:
        return here.litLamps();
      case 7:
        return inRow;
      case 8:
        return letters.length;
      default:
        return what < 11 || what > 16 ? NONE : refusals[what - 10];
    }
  }

  private int refuse(int number) {
    if (number < 0 && number > -refusals.length) {
      refusals[-number]++;
    }
    return number;
  }

  /** For answers of which every one from -6 to -1 is a refusal. */
  private int counted(int answer) {
    return answer < 0 ? refuse(answer) : answer;
  }

  private int noPersonAt(int person, int minute) {
    return here.isPerson(person) ? outside(minute, 0, LAST_MINUTE) : NOBODY;
  }

  private static int outside(int number, int least, int greatest) {
    if (number < least) {
      return BELOW;
    }
    return number > greatest ? ROOM : 0;
  }

  private int inRowAt(int i) {
    return i >= 0 && i < row.length ? row[i] : NONE;
  }

  private static int yes(boolean is) {
    return is ? 1 : 0;
  }

  /** Sets of cells, a bit for each. A cell that is none has no bit. */
  private static final class Cells {
    static final int COLUMNS = 6;
    static final int COUNT = 36;
    static final long ALL = 0xFFFFFFFFFL;
    static final long FIRST_COLUMN = 0x041041041L;
    static final long LAST_COLUMN = 0x820820820L;

    static boolean isOne(int cell) {
      return cell >= 0 && cell < COUNT;
    }

    static long only(int cell) {
      return cell >= 0 && cell < COUNT ? 1L << cell : 0;
    }

    static boolean has(long cells, int cell) {
      return (cells & only(cell)) != 0;
    }

    static int howMany(long cells) {
      return Long.bitCount(cells & ALL);
    }

    /** The i-th of them by numbers. */
    static int byNumber(long cells, int i) {
      int left = i;
      for (int cell = 0; cell < COUNT; cell++) {
        if (has(cells, cell)) {
          if (left == 0) {
            return cell;
          }
          left--;
        }
      }
      return NONE;
    }

    /** These, and the free ones beside those of them that are free. */
    static long spread(long cells, long free) {
      long from = cells & free;
      long sides = ((from & ~LAST_COLUMN) << 1) | ((from & ~FIRST_COLUMN) >>> 1);
      return cells | (((from << COLUMNS) | (from >>> COLUMNS) | sides) & free);
    }

    /** The cells to which it is that many steps or fewer; from a wall that wall alone. */
    static long within(int from, int steps, long free) {
      long reached = only(from);
      for (int i = 0; i < steps && i < COUNT; i++) {
        reached = spread(reached, free);
      }
      return reached;
    }

    static int fewestSteps(int from, int to, long free) {
      long reached = only(from) & free;
      for (int steps = 0; steps < COUNT; steps++) {
        if (has(reached, to)) {
          return steps;
        }
        reached = spread(reached, free);
      }
      return NONE;
    }

    /** The cell up, left, right, down of one (0 .. 3). */
    static int towards(int cell, int side) {
      long from = only(cell);
      switch (side) {
        case 0:
          return cell - COLUMNS;
        case 1:
          return (from & FIRST_COLUMN) != 0 ? NONE : cell - 1;
        case 2:
          return (from & LAST_COLUMN) != 0 ? NONE : cell + 1;
        default:
          return cell + COLUMNS;
      }
    }
  }

  /** A scene in one number, so that like scenes are like numbers. */
  private static final class Scene {
    static final int NO_WHO = 9;

    static int of(int who, int cell, int minute) {
      return minute * 1000 + cell * 10 + who;
    }

    static int whoIn(int scene) {
      return scene % 10;
    }

    static int cellIn(int scene) {
      return scene / 10 % 100;
    }

    static int minuteIn(int scene) {
      return scene / 1000;
    }
  }

  /** A lamp of kind l; a kind under it tells only what it does otherwise. */
  private static class Lamp {
    static final int MOST_SCENES = 9;
    static final int PLAIN = 0;
    static final int DIM = 1;
    static final int MOON = 2;
    static final int CARRIED = 3;
    static final int CANDLE = 4;
    static final int OVERLAID = 5;
    static final int FLICKERING = 6;
    int ownCell;
    int range;
    boolean lit = true;
    int size;
    /** The oldest first. No two have the same minute: each minute is of one step. */
    final int[] scenes = new int[MOST_SCENES];

    static Lamp ofKind(int kind) {
      switch (kind) {
        case DIM:
          return new Dim();
        case MOON:
          return new Moon();
        case CARRIED:
          return new Carried();
        case CANDLE:
          return new Candle();
        case OVERLAID:
          return new Overlaid();
        case FLICKERING:
          return new Flickering();
        default:
          return new Lamp();
      }
    }

    int kind() {
      return PLAIN;
    }

    /** How many scenes it keeps. */
    int room() {
      return MOST_SCENES;
    }

    int whoKept(int who) {
      return who;
    }

    int cellNow(Town town) {
      return ownCell;
    }

    boolean showsOldestFirst() {
      return false;
    }

    /** The place of the scene that goes for a new one of a cell, though there may be room. */
    int placeGivenUpFor(int cell) {
      return NONE;
    }

    final void keep(int who, int cell, int minute) {
      takeOut(placeGivenUpFor(cell));
      if (size >= room()) {
        takeOut(0);
      }
      if (size >= 0 && size < room() && size < scenes.length) {
        scenes[size] = Scene.of(whoKept(who), cell, minute);
        size++;
      }
    }

    final void takeOut(int place) {
      if (place < 0 || place >= size) {
        return;
      }
      for (int i = place; i + 1 < size && i + 1 < scenes.length; i++) {
        scenes[i] = scenes[i + 1];
      }
      size--;
    }

    final void breakDown() {
      size = 0;
      lit = false;
    }

    final Lamp twin() {
      Lamp twin = ofKind(kind());
      twin.ownCell = ownCell;
      twin.range = range;
      twin.lit = lit;
      twin.size = size;
      for (int i = 0; i < scenes.length && i < twin.scenes.length; i++) {
        twin.scenes[i] = scenes[i];
      }
      return twin;
    }

    /** The cells that it lights, or would, were it lit. */
    final long glow(Town town) {
      return town == null ? 0 : Cells.within(cellNow(town), range, town.free());
    }

    final int sceneAt(int place) {
      return place >= 0 && place < size && place < scenes.length ? scenes[place] : NONE;
    }

    final int sceneShown(int i) {
      return sceneAt(showsOldestFirst() ? i : size - 1 - i);
    }

    final int placeOfMinute(int minute) {
      for (int i = 0; i < size; i++) {
        if (Scene.minuteIn(sceneAt(i)) == minute) {
          return i;
        }
      }
      return NONE;
    }

    final boolean hasScene(int scene) {
      int place = placeOfMinute(Scene.minuteIn(scene));
      return place >= 0 && sceneAt(place) == scene;
    }

    final boolean sawAt(int person, int minute) {
      int place = placeOfMinute(minute);
      return place >= 0 && Scene.whoIn(sceneAt(place)) == person;
    }

    final int everSeen() {
      int people = 0;
      for (int i = 0; i < size; i++) {
        int who = Scene.whoIn(sceneAt(i));
        if (who != Scene.NO_WHO) {
          people |= 1 << who;
        }
      }
      return people;
    }

    /** The cells that its scenes of a person leave for him at a minute. */
    final long leftByScenes(int person, int minute, long free) {
      long cells = free;
      for (int i = 0; i < size; i++) {
        int scene = sceneAt(i);
        if (Scene.whoIn(scene) == person) {
          int between = Math.abs(minute - Scene.minuteIn(scene));
          cells &= Cells.within(Scene.cellIn(scene), between, free);
        }
      }
      return cells;
    }

    /** Whether it would still have a scene of the person, had it lit him at the minute. */
    final boolean missed(int person, int minute) {
      return kind() == PLAIN && lit && size < MOST_SCENES && !sawAt(person, minute);
    }
  }

  private static class Dim extends Lamp {
    int kind() {
      return DIM;
    }

    int whoKept(int who) {
      return Scene.NO_WHO;
    }
  }

  private static final class Moon extends Lamp {
    int kind() {
      return MOON;
    }

    int room() {
      return 0;
    }
  }

  private static final class Carried extends Lamp {
    int kind() {
      return CARRIED;
    }

    int cellNow(Town town) {
      int carriersCell = town == null ? NONE : town.cellOf(ownCell % MOST_PEOPLE);
      return carriersCell < 0 ? ownCell : carriersCell;
    }
  }

  private static final class Candle extends Dim {
    int kind() {
      return CANDLE;
    }

    int room() {
      return 3;
    }
  }

  private static class Overlaid extends Lamp {
    int kind() {
      return OVERLAID;
    }

    int placeGivenUpFor(int cell) {
      for (int i = 0; i < size; i++) {
        if (Scene.cellIn(sceneAt(i)) == cell) {
          return i;
        }
      }
      return NONE;
    }
  }

  private static final class Flickering extends Overlaid {
    int kind() {
      return FLICKERING;
    }

    boolean showsOldestFirst() {
      return true;
    }
  }

  /** All that an image holds. What changes it answers a refusal, if it can not be. */
  private static final class Town {
    final Lamp[] lamps = new Lamp[MOST_LAMPS];
    final int[] people = new int[MOST_PEOPLE];
    long walls;
    int lampCount;
    int peopleCount;
    int minute;

    void become(Town other) {
      if (other == null) {
        return;
      }
      for (int i = 0; i < lamps.length; i++) {
        Lamp one = other.lampAt(i);
        lamps[i] = one == null ? null : one.twin();
      }
      for (int i = 0; i < people.length; i++) {
        people[i] = other.cellOf(i);
      }
      walls = other.walls;
      lampCount = other.lampCount;
      peopleCount = other.peopleCount;
      minute = other.minute;
    }

    /** Null, if there is no such lamp. */
    Lamp lampAt(int lamp) {
      return lamp >= 0 && lamp < lampCount && lamp < lamps.length ? lamps[lamp] : null;
    }

    boolean isPerson(int person) {
      return person >= 0 && person < peopleCount;
    }

    int cellOf(int person) {
      boolean there = person >= 0 && person < peopleCount && person < people.length;
      return there ? people[person] : NONE;
    }

    long free() {
      return Cells.ALL & ~walls;
    }

    long peopled() {
      long cells = 0;
      for (int i = 0; i < peopleCount; i++) {
        cells |= Cells.only(cellOf(i));
      }
      return cells;
    }

    int addLamp(int kind, int cell, int range) {
      if (!Cells.isOne(cell) || range < 0 || range > GREATEST_RANGE) {
        return NOBODY;
      }
      if (lampCount < 0 || lampCount >= lamps.length) {
        return ROOM;
      }
      Lamp one = Lamp.ofKind(kind);
      one.ownCell = cell;
      one.range = range;
      lamps[lampCount] = one;
      lampCount++;
      return lampCount - 1;
    }

    int turnWall(int cell) {
      if (!Cells.isOne(cell)) {
        return NOBODY;
      }
      if (Cells.has(peopled(), cell)) {
        return STATE;
      }
      boolean was = Cells.has(walls, cell);
      if (!was && Cells.howMany(walls) >= MOST_WALLS) {
        return ROOM;
      }
      walls ^= Cells.only(cell);
      return yes(!was);
    }

    int addPerson(int cell) {
      if (!Cells.isOne(cell)) {
        return NOBODY;
      }
      if (Cells.has(walls, cell)) {
        return STATE;
      }
      if (peopleCount < 0 || peopleCount >= people.length) {
        return ROOM;
      }
      people[peopleCount] = cell;
      peopleCount++;
      return peopleCount - 1;
    }

    int walk(int person, int to) {
      if (!isPerson(person) || person >= people.length || !Cells.isOne(to)) {
        return NOBODY;
      }
      int steps = Cells.fewestSteps(people[person], to, free());
      if (steps < 0) {
        return STATE;
      }
      if (minute + steps > LAST_MINUTE) {
        return ROOM;
      }
      for (int left = steps - 1; left >= 0; left--) {
        long nearer = Cells.within(people[person], 1, free()) & Cells.within(to, left, free());
        people[person] = Cells.byNumber(nearer, 0);
        minute++;
        lampsKeep(person, people[person]);
      }
      return steps;
    }

    private void lampsKeep(int who, int cell) {
      for (int i = 0; i < lampCount; i++) {
        Lamp one = lampAt(i);
        if (one != null && one.lit && Cells.has(one.glow(this), cell)) {
          one.keep(who, cell, minute);
        }
      }
    }

    /** The cells that lit lamps light, but the told ones (bits). */
    long litBut(int told) {
      return glowOf(litLamps() & ~told);
    }

    /** The cells that these lamps (bits) light, lit or not. */
    long glowOf(int set) {
      long cells = 0;
      for (int i = 0; i < lampCount; i++) {
        Lamp one = lampAt(i);
        if (one != null && (set >> i & 1) == 1) {
          cells |= one.glow(this);
        }
      }
      return cells;
    }

    int litLamps() {
      int set = 0;
      for (int i = 0; i < lampCount; i++) {
        Lamp one = lampAt(i);
        if (one != null && one.lit) {
          set |= 1 << i;
        }
      }
      return set;
    }

    int allScenes() {
      int scenes = 0;
      for (int i = 0; i < lampCount; i++) {
        Lamp one = lampAt(i);
        scenes += one == null ? 0 : one.size;
      }
      return scenes;
    }

    int peopleOn(long cells) {
      int set = 0;
      for (int i = 0; i < peopleCount; i++) {
        if (Cells.has(cells, cellOf(i))) {
          set |= 1 << i;
        }
      }
      return set;
    }

    /** How many unlike scenes the lamps have that light one of the cells. */
    int unlikeScenesShownTo(long cells) {
      int unlike = 0;
      int showing = 0;
      for (int i = 0; i < lampCount; i++) {
        Lamp one = lampAt(i);
        if (one != null && (one.glow(this) & cells) != 0) {
          unlike += scenesNotOf(showing, one);
          showing |= 1 << i;
        }
      }
      return unlike;
    }

    private int scenesNotOf(int set, Lamp one) {
      int others = 0;
      for (int i = 0; i < one.size; i++) {
        others += yes(!anyHas(set, one.sceneAt(i)));
      }
      return others;
    }

    private boolean anyHas(int set, int scene) {
      for (int i = 0; i < lampCount; i++) {
        Lamp one = lampAt(i);
        if (one != null && (set >> i & 1) == 1 && one.hasScene(scene)) {
          return true;
        }
      }
      return false;
    }

    /** The cells where a person can have been at a minute. */
    long whereabouts(int person, int at) {
      long cells = free();
      for (int i = 0; i < lampCount; i++) {
        Lamp one = lampAt(i);
        if (one != null) {
          cells &= one.leftByScenes(person, at, free());
          cells &= one.missed(person, at) ? ~one.glow(this) : Cells.ALL;
        }
      }
      return cells;
    }
  }

  /** The letters of a town, told one by one. */
  private static final class Letters {
    static final String KINDS = "ldmckof";
    static final int FORM_FAULT = -1000;
    static final int SENSE_FAULT = -2000;
    final int[] text = new int[96];
    int length;

    boolean isFull() {
      return length >= text.length;
    }

    int add(int letter) {
      if (length >= 0 && length < text.length) {
        text[length] = letter;
        length++;
      }
      return length;
    }

    void clear() {
      length = 0;
    }

    private int at(int place) {
      return place >= 0 && place < length && place < text.length ? text[place] : NONE;
    }

    /** What must follow a first letter: k a kind, d a digit. Empty, if none begins so. */
    private static String formAfter(int first) {
      switch (first) {
        case 'l':
          return "kddd;";
        case 'g':
          return "ddd;";
        case 'w':
        case 'p':
          return "dd;";
        case 's':
        case 'b':
          return "d;";
        default:
          return "";
      }
    }

    private static boolean fits(char form, int letter) {
      switch (form) {
        case 'k':
          return letter > 0 && KINDS.indexOf((char) letter) >= 0;
        case 'd':
          return letter >= '0' && letter <= '9';
        default:
          return letter == form;
      }
    }

    /** The place of the first letter that can not stand there; -9. */
    private int misplaced() {
      int place = 0;
      do {
        String form = formAfter(at(place));
        if (form.isEmpty()) {
          return place;
        }
        for (int i = 0; i < form.length(); i++) {
          place++;
          if (!fits(form.charAt(i), at(place))) {
            return place;
          }
        }
        place++;
      } while (place < length);
      return NONE;
    }

    /** How many statements a town took, or the fault. */
    int tellTo(Town town) {
      int misplaced = misplaced();
      if (misplaced >= 0) {
        return FORM_FAULT - misplaced;
      }
      int statements = 0;
      for (int place = 0; place < length; place += 1 + formAfter(at(place)).length()) {
        if (town == null || obey(town, place) < 0) {
          return SENSE_FAULT - place;
        }
        statements++;
      }
      return statements;
    }

    private int obey(Town town, int place) {
      switch (at(place)) {
        case 'l':
          return town.addLamp(kindAt(place + 1), cellAt(place + 2), digitAt(place + 4));
        case 'w':
          return town.turnWall(cellAt(place + 1));
        case 'p':
          return town.addPerson(cellAt(place + 1));
        case 'g':
          return town.walk(digitAt(place + 1), cellAt(place + 2));
        case 's':
          return turnLamp(town.lampAt(digitAt(place + 1)));
        case 'b':
          return breakLamp(town.lampAt(digitAt(place + 1)));
        default:
          return OTHER;
      }
    }

    private static int turnLamp(Lamp one) {
      if (one == null) {
        return NOBODY;
      }
      one.lit = !one.lit;
      return yes(one.lit);
    }

    private static int breakLamp(Lamp one) {
      if (one == null) {
        return NOBODY;
      }
      one.breakDown();
      return 0;
    }

    private int kindAt(int place) {
      int letter = at(place);
      return letter > 0 ? KINDS.indexOf((char) letter) : NONE;
    }

    private int digitAt(int place) {
      return at(place) - '0';
    }

    private int cellAt(int place) {
      return digitAt(place) * 10 + digitAt(place + 1);
    }
  }
}
