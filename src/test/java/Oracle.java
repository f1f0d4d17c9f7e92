import java.util.ArrayDeque;
import java.util.ArrayList;
import java.util.Arrays;
import java.util.HashSet;
import java.util.List;
import java.util.Set;
import java.util.TreeSet;
import java.util.regex.Matcher;
import java.util.regex.Pattern;

/**
 * The document once more, in another way than the program: sets, lists and queues instead of bits,
 * one class instead of kinds under kinds. Where the two differ, one of them is wrong.
 */
final class Oracle {
  private static final Pattern TOWN =
      Pattern.compile("(l[ldmckof]\\d\\d\\d;|w\\d\\d;|p\\d\\d;|g\\d\\d\\d;|s\\d;|b\\d;)+");
  private static final String KINDS = "ldmckof";

  /** Who, cell, minute. */
  record Seen(int who, int cell, int minute) {}

  static final class OneLamp {
    char kind;
    int cell;
    int range;
    boolean lit = true;
    List<Seen> scenes = new ArrayList<>();

    OneLamp copy() {
      OneLamp c = new OneLamp();
      c.kind = kind;
      c.cell = cell;
      c.range = range;
      c.lit = lit;
      c.scenes = new ArrayList<>(scenes);
      return c;
    }
  }

  static final class World {
    Set<Integer> walls = new TreeSet<>();
    List<OneLamp> lamps = new ArrayList<>();
    List<Integer> people = new ArrayList<>();
    int minute;

    World copy() {
      World w = new World();
      w.walls = new TreeSet<>(walls);
      for (OneLamp l : lamps) {
        w.lamps.add(l.copy());
      }
      w.people = new ArrayList<>(people);
      w.minute = minute;
      return w;
    }
  }

  private World w = new World();
  private World image;
  private String text = "";
  private final List<Integer> row = new ArrayList<>();
  private final int[] refused = new int[7];

  int ask(String name, int... a) {
    int answer = answer(name, a);
    boolean refusable = !name.equals("swap") && !name.equals("town");
    if (refusable && answer < 0 && answer >= -6) {
      refused[-answer]++;
    }
    if (name.equals("swap") && answer > 1000) {
      refused[answer - 1000000000]++;
    }
    return answer;
  }

  private int answer(String name, int[] a) {
    switch (name) {
      case "letter": return letter(a[0]);
      case "town": return town();
      case "lamp": return lamp(a[0], a[1]);
      case "wall": return wall(w, a[0]);
      case "person": return person(w, a[0]);
      case "where": return noPerson(a[0]) ? -1 : w.people.get(a[0]);
      case "go": return go(w, a[0], a[1]);
      case "light": return light(a[0], a[1]);
      case "steps": return noCell(a[0]) || noCell(a[1]) ? -1 : distance(w, a[0], a[1], Set.of());
      case "lights": return noLamp(a[0]) || noCell(a[1]) ? -1 : litBy(w, w.lamps.get(a[0])).contains(a[1]) ? 1 : 0;
      case "shown": return shown(a[0], a[1], a[2]);
      case "seen": return seen(a[0]);
      case "by": return by(a[0], a[1]);
      case "unlit": return unlit(a[0], a[1], a[2]);
      case "forget": return forget(a[0], a[1]);
      case "knows": return knows(a[0], a[1], a[2]);
      case "known": return noPerson(a[0]) ? -1 : learnt(a[0]).size();
      case "allKnow": return allKnow();
      case "whereAt": return whereAt(a[0], a[1], a[2]);
      case "next": return next(a[0], a[1]);
      case "fewest": return fewest();
      case "oneMore": return oneMore(a[0], a[1]);
      case "two": return two(a[0], a[1]);
      case "swap": return swap(a[0], a[1]);
      case "row": return addToRow(a[0]);
      case "judge": return judge(a[0]);
      case "caught": return caught(a[0]);
      case "lots": return lots(a[0], a[1], a[2]);
      case "image": image = w.copy(); return w.minute;
      case "on": return on();
      case "count": return count(a[0]);
      default: throw new IllegalStateException(name);
    }
  }

  private boolean noCell(int cell) {
    return cell < 0 || cell > 35;
  }

  private boolean noPerson(int person) {
    return person < 0 || person >= w.people.size();
  }

  private boolean noLamp(int lamp) {
    return lamp < 0 || lamp >= w.lamps.size();
  }

  private static List<Integer> neighbours(int cell) {
    List<Integer> found = new ArrayList<>();
    int r = cell / 6;
    int c = cell % 6;
    for (int other = 0; other < 36; other++) {
      if (Math.abs(other / 6 - r) + Math.abs(other % 6 - c) == 1) {
        found.add(other);
      }
    }
    return found;
  }

  /** Steps from a cell to each; -9 where there are none. */
  private static int[] distances(World w, int from, Set<Integer> shut) {
    int[] far = new int[36];
    Arrays.fill(far, -9);
    if (w.walls.contains(from) || shut.contains(from)) {
      return far;
    }
    far[from] = 0;
    ArrayDeque<Integer> queue = new ArrayDeque<>();
    queue.add(from);
    while (!queue.isEmpty()) {
      int cell = queue.remove();
      for (int n : neighbours(cell)) {
        if (far[n] == -9 && !w.walls.contains(n) && !shut.contains(n)) {
          far[n] = far[cell] + 1;
          queue.add(n);
        }
      }
    }
    return far;
  }

  private static int distance(World w, int from, int to, Set<Integer> shut) {
    return distances(w, from, shut)[to];
  }

  private static int cellOf(World w, OneLamp l) {
    if (l.kind == 'c' && l.cell % 4 < w.people.size()) {
      return w.people.get(l.cell % 4);
    }
    return l.cell;
  }

  private static Set<Integer> litBy(World w, OneLamp l) {
    Set<Integer> lit = new TreeSet<>();
    int cell = cellOf(w, l);
    if (w.walls.contains(cell)) {
      lit.add(cell);
      return lit;
    }
    int[] far = distances(w, cell, Set.of());
    for (int c = 0; c < 36; c++) {
      if (far[c] >= 0 && far[c] <= l.range) {
        lit.add(c);
      }
    }
    return lit;
  }

  private static Set<Integer> allLit(World w, int but) {
    Set<Integer> lit = new TreeSet<>();
    for (int i = 0; i < w.lamps.size(); i++) {
      if (w.lamps.get(i).lit && (but >> i & 1) == 0) {
        lit.addAll(litBy(w, w.lamps.get(i)));
      }
    }
    return lit;
  }

  private static int most(char kind) {
    return kind == 'm' ? 0 : kind == 'k' ? 3 : 9;
  }

  private static void keep(OneLamp l, Seen s) {
    if (l.kind == 'm') {
      return;
    }
    boolean dim = l.kind == 'd' || l.kind == 'k';
    if (l.kind == 'o' || l.kind == 'f') {
      l.scenes.removeIf(old -> old.cell() == s.cell());
    }
    l.scenes.add(new Seen(dim ? 9 : s.who(), s.cell(), s.minute()));
    while (l.scenes.size() > most(l.kind)) {
      l.scenes.remove(0);
    }
  }

  private int letter(int c) {
    if (c < 0) {
      return -4;
    }
    if (c > 255 || text.length() == 96) {
      return -6;
    }
    text += (char) c;
    return text.length();
  }

  private int town() {
    String told = text;
    text = "";
    for (int k = 1; k <= told.length(); k++) {
      Matcher m = TOWN.matcher(told.substring(0, k));
      if (!m.matches() && !m.hitEnd()) {
        return -1000 - (k - 1);
      }
    }
    if (!TOWN.matcher(told).matches()) {
      return -1000 - told.length();
    }
    World next = w.copy();
    int place = 0;
    String[] statements = told.split(";");
    for (String s : statements) {
      if (!obeys(next, s)) {
        return -2000 - place;
      }
      place += s.length() + 1;
    }
    w = next;
    return statements.length;
  }

  private boolean obeys(World n, String s) {
    int first = s.charAt(1) - '0';
    switch (s.charAt(0)) {
      case 'l': {
        OneLamp l = new OneLamp();
        l.kind = s.charAt(1);
        l.cell = Integer.parseInt(s.substring(2, 4));
        l.range = Integer.parseInt(s.substring(4));
        n.lamps.add(l);
        return l.cell < 36 && l.range < 6 && n.lamps.size() < 7;
      }
      case 'w': return wall(n, Integer.parseInt(s.substring(1))) >= 0;
      case 'p': return person(n, Integer.parseInt(s.substring(1))) >= 0;
      case 'g': return go(n, first, Integer.parseInt(s.substring(2))) >= 0;
      case 's':
        if (first < n.lamps.size()) {
          n.lamps.get(first).lit ^= true;
        }
        return first < n.lamps.size();
      default:
        if (first < n.lamps.size()) {
          n.lamps.get(first).lit = false;
          n.lamps.get(first).scenes.clear();
        }
        return first < n.lamps.size();
    }
  }

  private int wall(World n, int cell) {
    if (noCell(cell)) {
      return -1;
    }
    if (n.people.contains(cell)) {
      return -3;
    }
    if (n.walls.remove(cell)) {
      return 0;
    }
    if (n.walls.size() == 18) {
      return -6;
    }
    n.walls.add(cell);
    return 1;
  }

  private int person(World n, int cell) {
    if (noCell(cell)) {
      return -1;
    }
    if (n.walls.contains(cell)) {
      return -3;
    }
    if (n.people.size() == 4) {
      return -6;
    }
    n.people.add(cell);
    return n.people.size() - 1;
  }

  private int go(World n, int person, int to) {
    if (person < 0 || person >= n.people.size() || noCell(to)) {
      return -1;
    }
    int[] left = distances(n, to, Set.of());
    int steps = left[n.people.get(person)];
    if (steps < 0) {
      return -3;
    }
    if (n.minute + steps > 9999) {
      return -6;
    }
    while (n.people.get(person) != to) {
      int at = n.people.get(person);
      int best = 99;
      for (int c : neighbours(at)) {
        if (left[c] == left[at] - 1) {
          best = Math.min(best, c);
        }
      }
      n.people.set(person, best);
      n.minute++;
      for (OneLamp l : n.lamps) {
        if (l.lit && litBy(n, l).contains(best)) {
          keep(l, new Seen(person, best, n.minute));
        }
      }
    }
    return steps;
  }

  private int lamp(int lamp, int what) {
    if (noLamp(lamp)) {
      return -1;
    }
    OneLamp l = w.lamps.get(lamp);
    int[] told = {KINDS.indexOf(l.kind), cellOf(w, l), l.range, l.lit ? 1 : 0, l.scenes.size(), litBy(w, l).size()};
    return what < 0 || what > 5 ? -2 : told[what];
  }

  private int light(int lamp, int is) {
    if (noLamp(lamp)) {
      return -1;
    }
    if (is != 0 && is != 1) {
      return -2;
    }
    int was = w.lamps.get(lamp).lit ? 1 : 0;
    w.lamps.get(lamp).lit = is == 1;
    return was;
  }

  private int shown(int lamp, int i, int what) {
    if (noLamp(lamp) || i < 0 || i >= w.lamps.get(lamp).scenes.size()) {
      return -1;
    }
    if (what < 0 || what > 2) {
      return -2;
    }
    OneLamp l = w.lamps.get(lamp);
    Seen s = l.scenes.get(l.kind == 'f' ? i : l.scenes.size() - 1 - i);
    return what == 0 ? s.who() : what == 1 ? s.cell() : s.minute();
  }

  private int seen(int lamp) {
    if (noLamp(lamp)) {
      return -1;
    }
    int bits = 0;
    for (Seen s : w.lamps.get(lamp).scenes) {
      bits |= s.who() == 9 ? 0 : 1 << s.who();
    }
    return bits;
  }

  private static int outOfMinutes(int minute) {
    return minute < 0 ? -4 : minute > 9999 ? -6 : 0;
  }

  private int by(int person, int minute) {
    if (noPerson(person)) {
      return -1;
    }
    if (outOfMinutes(minute) != 0) {
      return outOfMinutes(minute);
    }
    int bits = 0;
    for (int i = 0; i < w.lamps.size(); i++) {
      for (Seen s : w.lamps.get(i).scenes) {
        if (s.who() == person && s.minute() == minute) {
          bits |= 1 << i;
        }
      }
    }
    return bits;
  }

  private int unlit(int from, int to, int but) {
    if (noCell(from) || noCell(to)) {
      return -1;
    }
    if (but < 0 || but > 63) {
      return but < 0 ? -4 : -6;
    }
    return distance(w, from, to, allLit(w, but));
  }

  private int forget(int lamp, int minute) {
    if (noLamp(lamp)) {
      return -1;
    }
    if (outOfMinutes(minute) != 0) {
      return outOfMinutes(minute);
    }
    OneLamp l = w.lamps.get(lamp).copy();
    int more = 0;
    while (l.scenes.stream().anyMatch(s -> s.minute() == minute)) {
      more++;
      keep(l, new Seen(0, 100 + more, 20000 + more));
    }
    return more == 0 ? -9 : more;
  }

  private Set<Seen> learnt(int person) {
    Set<Seen> all = new HashSet<>();
    for (OneLamp l : w.lamps) {
      if (litBy(w, l).contains(w.people.get(person))) {
        all.addAll(l.scenes);
      }
    }
    return all;
  }

  private int knows(int person, int cell, int minute) {
    if (noPerson(person) || noCell(cell)) {
      return -1;
    }
    if (outOfMinutes(minute) != 0) {
      return outOfMinutes(minute);
    }
    int bits = 0;
    for (int p = 0; p < w.people.size(); p++) {
      bits |= learnt(p).contains(new Seen(person, cell, minute)) ? 1 << p : 0;
    }
    return bits;
  }

  private int allKnow() {
    Set<Seen> all = new HashSet<>();
    for (int p = 0; p < w.people.size(); p++) {
      all.addAll(learnt(p));
    }
    return all.size();
  }

  private boolean canHaveBeen(int person, int t, int cell) {
    if (w.walls.contains(cell)) {
      return false;
    }
    for (OneLamp l : w.lamps) {
      boolean hisAtT = false;
      for (Seen s : l.scenes) {
        if (s.who() == person) {
          int far = distance(w, s.cell(), cell, Set.of());
          hisAtT |= s.minute() == t;
          if (far < 0 || far > Math.abs(t - s.minute())) {
            return false;
          }
        }
      }
      if (l.lit && l.kind == 'l' && l.scenes.size() < 9 && !hisAtT && litBy(w, l).contains(cell)) {
        return false;
      }
    }
    return true;
  }

  private List<Integer> places(int person, int t) {
    List<Integer> found = new ArrayList<>();
    for (int cell = 0; cell < 36; cell++) {
      if (canHaveBeen(person, t, cell)) {
        found.add(cell);
      }
    }
    return found;
  }

  private int whereAt(int person, int minute, int i) {
    if (noPerson(person)) {
      return -1;
    }
    if (minute < 0 || i < -1) {
      return -4;
    }
    if (minute > 9999) {
      return -6;
    }
    List<Integer> found = places(person, minute);
    return i == -1 ? found.size() : i < found.size() ? found.get(i) : -9;
  }

  private int next(int person, int minute) {
    if (noPerson(person)) {
      return -1;
    }
    if (outOfMinutes(minute) != 0) {
      return outOfMinutes(minute);
    }
    List<Integer> found = places(person, minute);
    int best = -9;
    int even = -1;
    for (int i = 0; i < w.lamps.size() && !found.isEmpty(); i++) {
      Set<Integer> lit = litBy(w, w.lamps.get(i));
      int in = (int) found.stream().filter(lit::contains).count();
      if (Math.min(in, found.size() - in) > even) {
        even = Math.min(in, found.size() - in);
        best = i;
      }
    }
    return best;
  }

  private int fewest() {
    for (int cell : row) {
      if (cell > 35) {
        return -3;
      }
    }
    for (int size = 0; size <= w.lamps.size(); size++) {
      for (int set = 0; set < 1 << w.lamps.size(); set++) {
        Set<Integer> lit = new HashSet<>();
        int bits = 0;
        for (int i = 0; i < w.lamps.size(); i++) {
          if ((set >> i & 1) == 1) {
            bits++;
            lit.addAll(litBy(w, w.lamps.get(i)));
          }
        }
        if (bits == size && lit.containsAll(row)) {
          return set;
        }
      }
    }
    return -9;
  }

  private int oneMore(int range, int what) {
    if (range < 0 || range > 5) {
      return range < 0 ? -4 : -6;
    }
    if (what < 0 || what > 1) {
      return -2;
    }
    int most = -1;
    int at = -1;
    for (int cell = 0; cell < 36; cell++) {
      OneLamp l = new OneLamp();
      l.kind = 'l';
      l.cell = cell;
      l.range = range;
      Set<Integer> more = litBy(w, l);
      more.removeAll(allLit(w, 0));
      if (more.size() > most) {
        most = more.size();
        at = cell;
      }
    }
    return what == 0 ? most : at;
  }

  private int two(int one, int other) {
    if (noLamp(one) || noLamp(other)) {
      return -1;
    }
    int both = 0;
    for (Seen s : w.lamps.get(one).scenes) {
      if (w.lamps.get(other).scenes.stream().anyMatch(o -> o.cell() == s.cell() && o.minute() == s.minute())) {
        both++;
      }
    }
    return both;
  }

  private int swap(int one, int other) {
    if (noLamp(one) || noLamp(other)) {
      return 1000000001;
    }
    World then = w.copy();
    then.lamps.get(one).cell = w.lamps.get(other).cell;
    then.lamps.get(other).cell = w.lamps.get(one).cell;
    return allLit(then, 0).size() - allLit(w, 0).size();
  }

  private int addToRow(int v) {
    if (v < 0) {
      return -4;
    }
    if (v > 99 || row.size() == 12) {
      return -6;
    }
    row.add(v);
    return row.size();
  }

  private int judge(int person) {
    if (noPerson(person)) {
      return -1;
    }
    int ahead = w.people.get(person);
    for (int i = 0; i < row.size(); i++) {
      int cell = row.get(i);
      if (w.walls.contains(cell) || cell != ahead && !neighbours(ahead).contains(cell)) {
        return i;
      }
      ahead = cell;
    }
    return -9;
  }

  private int caught(int person) {
    if (noPerson(person)) {
      return -1;
    }
    Set<Integer> lit = allLit(w, 0);
    int first = -9;
    for (int i = row.size() - 1; i >= 0; i--) {
      first = lit.contains(row.get(i)) ? i : first;
    }
    row.clear();
    return first;
  }

  private int lots(int person, int n, int z) {
    if (noPerson(person)) {
      return -1;
    }
    if (n < 1 || n > 20) {
      return n < 1 ? -4 : -6;
    }
    long seed = z & 0xFFFFFFFFL;
    int total = 0;
    List<Set<Integer>> lights = new ArrayList<>();
    for (OneLamp l : w.lamps) {
      lights.add(l.lit && l.kind != 'm' ? litBy(w, l) : Set.of());
    }
    int[] dr = {-1, 0, 0, 1};
    int[] dc = {0, -1, 1, 0};
    for (int walk = 0; walk < n; walk++) {
      int cell = w.people.get(person);
      for (int minute = 0; minute < 12; minute++) {
        seed = (seed * 1664525L + 1013904223L) % 4294967296L;
        int side = (int) (seed % 2147483648L / 256 % 4);
        int r = cell / 6 + dr[side];
        int c = cell % 6 + dc[side];
        if (r >= 0 && r < 6 && c >= 0 && c < 6 && !w.walls.contains(r * 6 + c)) {
          cell = r * 6 + c;
        }
        for (Set<Integer> lit : lights) {
          total += lit.contains(cell) ? 1 : 0;
        }
      }
    }
    return total;
  }

  private int on() {
    if (image == null) {
      return -3;
    }
    w = image.copy();
    return w.minute;
  }

  private int count(int what) {
    switch (what) {
      case 0: return w.lamps.size();
      case 1: return w.people.size();
      case 2: return w.walls.size();
      case 3: return w.minute;
      case 4: return w.lamps.stream().mapToInt(l -> l.scenes.size()).sum();
      case 5: return allLit(w, 0).size();
      case 6: {
        int bits = 0;
        for (int i = 0; i < w.lamps.size(); i++) {
          bits |= w.lamps.get(i).lit ? 1 << i : 0;
        }
        return bits;
      }
      case 7: return row.size();
      case 8: return text.length();
      case 11: case 12: case 13: case 14: case 15: case 16: return refused[what - 10];
      default: return -9;
    }
  }
}
