/** Counts the answers that are not as due, and prints each of them. */
final class Checks {
  private final String name;
  private int looked;
  private int wrong;

  Checks(String name) {
    this.name = name;
  }

  void due(String call, long got, long want) {
    looked++;
    if (got != want) {
      wrong++;
      System.out.println(name + ": " + call + " answered " + got + ", due is " + want);
    }
  }

  void holds(String what, boolean is) {
    looked++;
    if (!is) {
      wrong++;
      System.out.println(name + ": does not hold: " + what);
    }
  }

  /** Tells the letters one by one, and then the town. */
  static int tell(LampsThatRemember x, String text) {
    for (int i = 0; i < text.length(); i++) {
      x.letter(text.charAt(i));
    }
    return x.town();
  }

  void end() {
    System.out.println(name + ": " + looked + " answers looked at, " + wrong + " not as due");
    if (wrong != 0) {
      System.exit(1);
    }
  }
}
