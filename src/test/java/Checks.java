import java.util.function.Consumer;

/** Counts the answers that are not as due, and prints each of them, with the sentence that it breaks. */
final class Checks {
  private final String name;
  private String sentence = "";
  private int tests;
  private int looked;
  private int wrong;

  Checks(String name) {
    this.name = name;
  }

  /** A test of its own for one sentence of the document, on a new object. */
  void test(String ofSentence, Consumer<Told> body) {
    sentence = ofSentence + ": ";
    tests++;
    try {
      body.accept(new Told(this));
    } catch (RuntimeException thrown) {
      holds("nothing is thrown, but " + thrown, false);
    }
    sentence = "";
  }

  void due(String call, long got, long want) {
    looked++;
    if (got != want) {
      wrong++;
      System.out.println(name + ": " + sentence + call + " answered " + got + ", due is " + want);
    }
  }

  void holds(String what, boolean is) {
    looked++;
    if (!is) {
      wrong++;
      System.out.println(name + ": " + sentence + "does not hold: " + what);
    }
  }

  /** Tells the letters one by one, and then the town. */
  static int tell(LampsThatRemember x, String text) {
    for (int i = 0; i < text.length(); i++) {
      x.letter(text.charAt(i));
    }
    return x.town();
  }

  void end() {
    String told = tests == 0 ? "" : tests + " tests, ";
    System.out.println(name + ": " + told + looked + " answers looked at, " + wrong + " not as due");
    if (wrong != 0) {
      System.exit(1);
    }
  }
}
