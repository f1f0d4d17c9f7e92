import java.util.ArrayList;
import java.util.List;
import java.util.function.Consumer;

/**
 * Two objects that are told the same, of which one is told something more: what that changes is looked at
 * in all that calls can show. Each look is at objects of its own, since some looks change what they show.
 */
final class Twins {
  private static final int[] COUNTS = {0, 1, 2, 3, 4, 5, 6, 7, 8, 11, 12, 13, 14, 15, 16};
  private static final int FIRST_REFUSAL = 11;

  private final Checks checks;

  Twins(Checks checks) {
    this.checks = checks;
  }

  /** A refused call answers its number; how many there were of it is one more, and nothing else is changed. */
  void refused(String sentence, Consumer<Told> state, int due, String name, int... a) {
    int number = due > 0 ? due - 1000000000 : -due;
    only(sentence, state, x -> x.due(due, name, a), number);
  }

  /** Nothing is changed, no refusal is counted. */
  void unchanged(String sentence, Consumer<Told> state, Consumer<Told> more) {
    only(sentence, state, more, 0);
  }

  private void only(String sentence, Consumer<Told> state, Consumer<Told> more, int refusal) {
    alike(sentence + " [what there is]", state, more, refusal, Twins::world);
    alike(sentence + " [the row]", state, more, refusal, Twins::row);
    alike(sentence + " [the letters]", state, more, refusal, Twins::letters);
    alike(sentence + " [the image]", state, more, refusal, Twins::image);
  }

  private void alike(String sentence, Consumer<Told> state, Consumer<Told> more, int refusal, Look look) {
    checks.test(sentence, x -> {
      state.accept(x);
      int[] before = refusals(x);
      more.accept(x);
      int[] behind = refusals(x);
      for (int i = 0; i < before.length; i++) {
        checks.due("how many refusals -" + (i + 1) + " more", behind[i] - before[i], i + 1 == refusal ? 1 : 0);
      }
      Told twin = new Told(checks);
      state.accept(twin);
      List<String> is = new ArrayList<>();
      List<String> due = new ArrayList<>();
      look.at(x, is);
      look.at(twin, due);
      checks.due("how much there is to see", is.size(), due.size());
      for (int i = 0; i < Math.min(is.size(), due.size()); i++) {
        checks.holds("unchanged " + due.get(i) + ", but there is " + is.get(i), is.get(i).equals(due.get(i)));
      }
    });
  }

  private interface Look {
    void at(Told x, List<String> seen);
  }

  private static int[] refusals(Told x) {
    int[] all = new int[6];
    for (int i = 0; i < all.length; i++) {
      all[i] = x.ask("count", FIRST_REFUSAL + i);
    }
    return all;
  }

  private static int see(Told x, List<String> seen, String name, int... a) {
    int answer = x.ask(name, a);
    seen.add(Calls.text(name, a) + " = " + answer);
    return answer;
  }

  private static void world(Told x, List<String> seen) {
    for (int what : COUNTS) {
      if (what < FIRST_REFUSAL) {
        see(x, seen, "count", what);
      }
    }
    int lamps = x.ask("count", 0);
    for (int lamp = 0; lamp < lamps; lamp++) {
      for (int what = 0; what <= 5; what++) {
        see(x, seen, "lamp", lamp, what);
      }
      see(x, seen, "swap", lamp, 0);
      int scenes = x.ask("lamp", lamp, 4);
      for (int i = 0; i < scenes; i++) {
        for (int what = 0; what <= 2; what++) {
          see(x, seen, "shown", lamp, i, what);
        }
      }
    }
    int people = x.ask("count", 1);
    for (int person = 0; person < people; person++) {
      see(x, seen, "where", person);
    }
    for (int cell = 0; cell < 36; cell++) {
      see(x, seen, "steps", cell, cell);
    }
  }

  private static void row(Told x, List<String> seen) {
    see(x, seen, "count", 7);
    see(x, seen, "fewest");
    int people = x.ask("count", 1);
    for (int person = 0; person < people; person++) {
      see(x, seen, "judge", person);
    }
    // What can be added shows how long it is, and one that is none shows itself to fewest().
    see(x, seen, "row", 35);
    see(x, seen, "fewest");
    see(x, seen, "caught", 0);
    see(x, seen, "count", 7);
  }

  private static void letters(Told x, List<String> seen) {
    see(x, seen, "count", 8);
    see(x, seen, "town");
    world(x, seen);
  }

  private static void image(Told x, List<String> seen) {
    see(x, seen, "on");
    world(x, seen);
  }
}
