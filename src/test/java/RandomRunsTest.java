import java.util.Random;

/** Runs of 512 calls by lot (with told seeds), each answer beside that of the Oracle. */
public final class RandomRunsTest {
  private static final int RUNS = 1500;
  private static final int CALLS = 512;
  private static final String[] NAMES = {
    "lamp", "wall", "person", "where", "go", "go", "go", "light", "steps", "lights", "shown", "shown", "seen", "by",
    "unlit", "forget", "knows", "known", "allKnow", "whereAt", "whereAt", "next", "fewest", "oneMore", "two", "swap",
    "row", "row", "row", "judge", "caught", "lots", "image", "on", "count", "count", "letter", "town"
  };
  private static final int[] FAR = {
    Integer.MIN_VALUE, Integer.MIN_VALUE + 1, -1000000000, -37, -10, -9, -2, 36, 37, 41, 63, 64, 99, 100, 255, 256,
    9999, 10000, 1 << 16, 1000000000, Integer.MAX_VALUE - 1, Integer.MAX_VALUE
  };

  private final Random lot;
  private final Checks checks;
  private final Oracle oracle = new Oracle();
  private final LampsThatRemember x = new LampsThatRemember();
  private final StringBuilder told = new StringBuilder();
  private final int run;
  /** Runs with more care for what is there say less that is refused. */
  private final int wildness;
  private int calls;

  private RandomRunsTest(int run, Checks checks) {
    this.run = run;
    this.checks = checks;
    lot = new Random(run);
    wildness = run % 3 == 0 ? 10 : 60;
  }

  public static void main(String[] args) {
    Checks checks = new Checks("RandomRunsTest");
    for (int run = 1; run <= RUNS; run++) {
      new RandomRunsTest(run, checks).all();
    }
    checks.end();
  }

  private void all() {
    if (lot.nextInt(4) > 0) {
      tell(start());
    }
    while (calls < CALLS) {
      if (lot.nextInt(25) == 0) {
        tell(lot.nextInt(6) == 0 ? garbled(statements()) : statements());
      } else {
        call();
      }
    }
  }

  private void ask(String name, int... a) {
    calls++;
    long want = oracle.ask(name, a);
    long got = Calls.answer(x, name, a);
    checks.due("run " + run + ", call " + calls + ": " + Calls.text(name, a), got, want);
  }

  private void tell(String text) {
    for (int i = 0; i < text.length(); i++) {
      ask("letter", text.charAt(i));
    }
    ask("town");
  }

  private String start() {
    told.setLength(0);
    for (int i = lot.nextInt(7); i > 0; i--) {
      told.append('l').append("ldmckof".charAt(lot.nextInt(7))).append(twoDigits(lot.nextInt(36))).append(lot.nextInt(6)).append(';');
    }
    for (int i = lot.nextInt(8); i > 0; i--) {
      told.append('w').append(twoDigits(lot.nextInt(36))).append(';');
    }
    for (int i = 1 + lot.nextInt(4); i > 0; i--) {
      told.append('p').append(twoDigits(lot.nextInt(36))).append(';');
    }
    return told.toString();
  }

  private String statements() {
    told.setLength(0);
    for (int i = 1 + lot.nextInt(lot.nextInt(8) == 0 ? 18 : 5); i > 0; i--) {
      told.append(statement());
    }
    return told.toString();
  }

  private String statement() {
    int cell = lot.nextInt(30) == 0 ? lot.nextInt(100) : lot.nextInt(36);
    int few = lot.nextInt(20) == 0 ? lot.nextInt(10) : lot.nextInt(4);
    switch (lot.nextInt(6)) {
      case 0: return "l" + "ldmckof".charAt(lot.nextInt(7)) + twoDigits(cell) + few + ";";
      case 1: return "w" + twoDigits(cell) + ";";
      case 2: return "p" + twoDigits(cell) + ";";
      case 3: return "g" + few + twoDigits(cell) + ";";
      case 4: return "s" + few + ";";
      default: return "b" + few + ";";
    }
  }

  private String garbled(String text) {
    StringBuilder b = new StringBuilder(text);
    int place = lot.nextInt(b.length());
    if (lot.nextInt(3) == 0) {
      b.setLength(place);
    } else {
      b.setCharAt(place, "lwpgsbdmckof0123456789;x\0\u00ff".charAt(lot.nextInt(26)));
    }
    return b.toString();
  }

  private static String twoDigits(int n) {
    return "" + n / 10 + n % 10;
  }

  private int number(int below) {
    int wild = lot.nextInt(wildness);
    if (wild == 0) {
      return FAR[lot.nextInt(FAR.length)];
    }
    return wild == 1 ? lot.nextInt(below + 4) - 2 : lot.nextInt(below);
  }

  private int aLamp() {
    return number(Math.max(1, oracle.ask("count", 0)));
  }

  private int aPerson() {
    return number(Math.max(1, oracle.ask("count", 1)));
  }

  private int aMinute() {
    int now = oracle.ask("count", 3);
    return lot.nextInt(3) == 0 ? number(now + 12) : now - Math.min(now, lot.nextInt(14));
  }

  /** A cell near to where somebody is, more often than not, so that rows make walks. */
  private int aStep() {
    int at = oracle.ask("count", 1) > 0 ? oracle.ask("where", 0) : 14;
    int[] sides = {0, -6, -1, 1, 6};
    int to = at + sides[lot.nextInt(5)];
    return lot.nextInt(4) == 0 || to < 0 ? number(40) : to;
  }

  /** What the last minutes' first scene tells, so that somebody may know it. */
  private void askOfAScene() {
    int lamp = aLamp();
    int i = lot.nextInt(4);
    int who = oracleQuiet(lamp, i, 0);
    if (who < 0 || who == 9) {
      ask("knows", aPerson(), number(36), aMinute());
    } else {
      ask("knows", who, oracleQuiet(lamp, i, 1), oracleQuiet(lamp, i, 2));
    }
  }

  private int oracleQuiet(int lamp, int i, int what) {
    if (lamp < 0 || lamp >= oracle.ask("count", 0) || i >= oracle.ask("lamp", lamp, 4)) {
      return -1;
    }
    return oracle.ask("shown", lamp, i, what);
  }

  private void call() {
    String name = NAMES[lot.nextInt(NAMES.length)];
    switch (name) {
      case "letter": ask(name, number(300)); break;
      case "town": case "allKnow": case "fewest": case "on": ask(name); break;
      case "image": if (lot.nextInt(3) == 0) { ask(name); } break;
      case "lamp": ask(name, aLamp(), number(6)); break;
      case "wall": case "person": ask(name, number(36)); break;
      case "where": case "known": case "judge": case "caught": ask(name, aPerson()); break;
      case "go": ask(name, aPerson(), number(36)); break;
      case "light": ask(name, aLamp(), number(2)); break;
      case "steps": ask(name, number(36), number(36)); break;
      case "lights": ask(name, aLamp(), number(36)); break;
      case "shown": ask(name, aLamp(), number(9), number(3)); break;
      case "seen": ask(name, aLamp()); break;
      case "by": case "next": ask(name, aPerson(), aMinute()); break;
      case "unlit": ask(name, number(36), number(36), number(64)); break;
      case "forget": ask(name, aLamp(), aMinute()); break;
      case "knows": askOfAScene(); break;
      case "whereAt": ask(name, aPerson(), aMinute(), number(12) - 1); break;
      case "oneMore": ask(name, number(6), number(2)); break;
      case "two": case "swap": ask(name, aLamp(), aLamp()); break;
      case "row": ask(name, aStep()); break;
      case "lots": ask(name, aPerson(), 1 + number(20), lot.nextInt()); break;
      default: ask(name, number(18)); break;
    }
  }
}
