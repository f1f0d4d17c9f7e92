/** One object, asked by the names of its calls, and for no more calls than the document allows one. */
final class Told {
  private static final int MOST_CALLS = 512;

  private final Checks checks;
  private final LampsThatRemember x = new LampsThatRemember();
  private int calls;

  Told(Checks checks) {
    this.checks = checks;
  }

  int ask(String name, int... a) {
    calls++;
    if (calls > MOST_CALLS) {
      throw new IllegalStateException("the test asks one object for more than 512 calls");
    }
    return Calls.answer(x, name, a);
  }

  Told due(int want, String name, int... a) {
    checks.due(Calls.text(name, a), ask(name, a), want);
    return this;
  }

  /** Tells letters that must all be taken. */
  Told letters(String text) {
    int before = ask("count", 8);
    for (int i = 0; i < text.length(); i++) {
      due(before + i + 1, "letter", text.charAt(i));
    }
    return this;
  }

  Told town(String text, int want) {
    letters(text);
    checks.due("town() of " + text, ask("town"), want);
    return this;
  }

  /** A town without a fault. */
  Told town(String text) {
    return town(text, text.length() - text.replace(";", "").length());
  }

  Told row(int... cells) {
    int before = ask("count", 7);
    for (int i = 0; i < cells.length; i++) {
      due(before + i + 1, "row", cells[i]);
    }
    return this;
  }

  Told walls(int... cells) {
    for (int cell : cells) {
      due(1, "wall", cell);
    }
    return this;
  }

  /** The i-th scene that a lamp shows. */
  Told shows(int lamp, int i, int who, int cell, int minute) {
    return due(who, "shown", lamp, i, 0).due(cell, "shown", lamp, i, 1).due(minute, "shown", lamp, i, 2);
  }
}
