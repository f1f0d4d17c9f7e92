import java.util.function.Consumer;

/**
 * One test for each boundary case of "Promise 1" to "Promise 32": the least and the greatest that is taken, what is
 * below and above, what is full or empty, and each refused call: its REFUSAL, the first of several, and that behind
 * it nothing is changed but how many there were.
 */
public final class BoundariesTest {
  private static final int LEAST = Integer.MIN_VALUE;
  private static final int GREATEST = Integer.MAX_VALUE;
  private static final String WALLS_18 = "w00;w01;w02;w03;w04;w05;w06;w07;w08;w09;w10;w11;w12;w13;w14;w15;w16;w17;";

  private static final Checks C = new Checks("BoundariesTest");
  private static final Twins TWINS = new Twins(C);

  public static void main(String[] args) {
    promise1New();
    promise2Letter();
    promise3Town();
    promise4Lamp();
    promise5Wall();
    promise6Person();
    promise7Where();
    promise8Go();
    promise9Light();
    promise10Steps();
    promise11Lights();
    promise12Shown();
    promise13Seen();
    promise14By();
    promise15Unlit();
    promise16Forget();
    promise17Knows();
    promise18And19Known();
    promise20WhereAt();
    promise21Next();
    promise22Fewest();
    promise23OneMore();
    promise24Two();
    promise25Swap();
    promise26Row();
    promise27Judge();
    promise28Caught();
    promise29Lots();
    promise30And31Image();
    promise32Count();
    C.end();
  }

  private static void t(String sentence, Consumer<Told> body) {
    C.test(sentence, body);
  }

  /** Lamps 0 .. 3, people 0 .. 2, walls, scenes, an image that is no longer as all is, a row and letters. */
  private static void rich(Told x) {
    x.town("ll002;lc141;lk071;ld332;p00;p35;p07;w20;w21;g002;g128;s3;").due(4, "image");
    x.due(1, "go", 2, 13).due(1, "light", 0, 0).due(1, "wall", 22).row(0, 14, 7).letters("w23;p05;");
  }

  private static void no(String sentence, int due, String name, int... a) {
    no(sentence, BoundariesTest::rich, due, name, a);
  }

  private static void no(String sentence, Consumer<Told> state, int due, String name, int... a) {
    TWINS.refused(sentence + ": " + Calls.text(name, a), state, due, name, a);
  }

  /** A number in place of one of the call's, for each of these. */
  private static void noneOf(String sentence, int due, int[] wrong, int place, String name, int... a) {
    for (int one : wrong) {
      int[] b = a.clone();
      b[place] = one;
      no(sentence, due, name, b);
    }
  }

  private static void noLamp(String sentence, int place, String name, int... a) {
    int due = name.equals("swap") ? 1000000001 : -1;
    noneOf(sentence + ", no such LAMP", due, new int[] {LEAST, -1, 4, 6, 32, GREATEST}, place, name, a);
  }

  private static void noPerson(String sentence, int place, String name, int... a) {
    noneOf(sentence + ", no such PERSON", -1, new int[] {LEAST, -1, 3, 4, 9, GREATEST}, place, name, a);
  }

  private static void noCell(String sentence, int place, String name, int... a) {
    noneOf(sentence + ", no such CELL", -1, new int[] {LEAST, -1, 36, 64, 99, GREATEST}, place, name, a);
  }

  private static void noMinute(String promise, int place, String name, int... a) {
    noneOf(promise + " '-4'", -4, new int[] {LEAST, -1}, place, name, a);
    noneOf(promise + " '-6 9999'", -6, new int[] {10000, GREATEST}, place, name, a);
  }

  private static void inMind(String promise, String name, int... a) {
    TWINS.unchanged(promise + " is asked alone: " + Calls.text(name, a), BoundariesTest::rich, x -> x.ask(name, a));
  }

  private static void promise1New() {
    String p = "Promise 1, 'No LAMPS, nobody, no WALLS'";
    t(p + ": no LAMPS", x -> x.due(0, "count", 0).due(-1, "lamp", 0, 0).due(0, "count", 6));
    t(p + ": nobody", x -> x.due(0, "count", 1).due(-1, "where", 0));
    t(p + ": no WALLS", x -> {
      x.due(0, "count", 2);
      for (int cell = 0; cell < 36; cell++) {
        x.due(0, "steps", cell, cell);
      }
    });
    t(p + ", nor anything else", x -> {
      for (int what : new int[] {3, 4, 5, 7, 8, 11, 12, 13, 14, 15, 16}) {
        x.due(0, "count", what);
      }
      x.due(-3, "on").due(-1000, "town");
    });
    t(p + ": another object has its own", x -> {
      Told other = new Told(C);
      rich(other);
      x.due(0, "count", 0).due(0, "count", 1).due(0, "count", 2).due(0, "count", 7).due(0, "count", 8).due(-3, "on");
      x.town("ll355;").row(1);
      other.due(4, "count", 0).due(3, "count", 7).due(8, "count", 8).due(4, "on");
    });
  }

  private static void promise2Letter() {
    String p = "Promise 2";
    t(p + " '(0 .. 255)': 0", x -> x.due(1, "letter", 0).due(1, "count", 8));
    t(p + " '(0 .. 255)': 255", x -> x.due(1, "letter", 255).due(1, "count", 8));
    t(p + " 'how many there are'", x -> {
      for (int i = 1; i <= 96; i++) {
        x.due(i, "letter", i);
      }
    });
    t(p + " 'how many there are': behind a TOWN they begin again, and 96 fit", x -> {
      x.town("w34;".repeat(24));
      for (int i = 1; i <= 96; i++) {
        x.due(i, "letter", 'x');
      }
      x.due(-6, "letter", 'x').due(-1000, "town").due(1, "letter", 'x');
    });
    noneOf(p + " '-4'", -4, new int[] {LEAST, LEAST + 1, -256, -1}, 0, "letter", 0);
    noneOf(p + " '-6 (255)'", -6, new int[] {256, 256 + 'w', 65536, GREATEST}, 0, "letter", 0);
    Consumer<Told> full = x -> x.town("ll002;p00;").due(0, "image").letters("w34;".repeat(24));
    no(p + " '-6 (96, too)'", full, -6, "letter", 'w');
    no(p + " '-6 (96, too)'", full, -6, "letter", 0);
    no(p + " '-6 (255; 96, too)', both", full, -6, "letter", 256);
    no(p + " '-4' ahead of '-6 (96, too)'", full, -4, "letter", -1);
    no(p + " '-4' ahead of '-6 (96, too)'", full, -4, "letter", LEAST);
  }

  private static void promise3Town() {
    String p = "Promise 3";
    t(p + " 'how many STATEMENTS': 1", x -> x.town("w00;", 1));
    t(p + " 'how many STATEMENTS': 24", x -> x.town("w00;".repeat(24), 24));
    t(p + " 'how many STATEMENTS': not those of a TOWN ahead", x -> x.town("w00;w01;", 2).town("w02;", 1));
    t(p + " 'The letters become a TOWN, and are no more'", x -> x
        .town("w00;", 1).due(0, "count", 8).town("w01;", 1).due(2, "count", 2));
    t(p + " '(with a FAULT neither)': of kind 1", x -> x
        .town("w00;x", -1004).due(0, "count", 8).town("w01;", 1).due(1, "count", 2));
    t(p + " '(with a FAULT neither)': of kind 2", x -> x
        .town("w00;w36;", -2004).due(0, "count", 8).town("w01;", 1).due(1, "count", 2));
    t(p + " 'the FAULT': of no letters", x -> x.town("", -1000));
    TWINS.unchanged(p + " '(nothing is counted)': of kind 1", x -> x
        .town("p00;").due(0, "image").row(1), x -> x.town("w00;x", -1004));
    TWINS.unchanged(p + " '(nothing is counted)': of kind 2", x -> x
        .town("p00;").due(0, "image").row(1), x -> x.town("w01;w00;", -2004));
    TWINS.unchanged(p + " '(nothing is counted)': of no letters", x -> x
        .town("p00;").due(0, "image").row(1), x -> x.town("", -1000));
  }

  private static void promise4Lamp() {
    String p = "Promise 4";
    t(p + " '0 KIND' to '5 how many CELLS it LIGHTS'", x -> x
        .town("lf343;").due(6, "lamp", 0, 0).due(34, "lamp", 0, 1).due(3, "lamp", 0, 2).due(1, "lamp", 0, 3)
        .due(0, "lamp", 0, 4).due(13, "lamp", 0, 5));
    t(p + " '0 KIND (0 l .. 6 f)'", x -> x.town("ll000;ld000;lm000;lc000;lk000;lo000;")
        .due(0, "lamp", 0, 0).due(1, "lamp", 1, 0).due(2, "lamp", 2, 0).due(3, "lamp", 3, 0).due(4, "lamp", 4, 0)
        .due(5, "lamp", 5, 0));
    t(p + " '1 CELL (as it is now)'", x -> x
        .town("lc350;p00;p00;p00;").due(35, "lamp", 0, 1).town("p07;g308;").due(8, "lamp", 0, 1));
    t(p + " '2 RANGE': the least and the greatest", x -> x
        .town("ll000;ll005;").due(0, "lamp", 0, 2).due(5, "lamp", 1, 2));
    t(p + " '3 1 it is LIT'", x -> x.town("ll000;s0;").due(0, "lamp", 0, 3).town("s0;").due(1, "lamp", 0, 3));
    t(p + " '4 how many SCENES': none and 9", x -> x
        .town("ll145;p00;").due(0, "lamp", 0, 4).due(9, "go", 0, 34).due(9, "lamp", 0, 4));
    t(p + " '5 how many CELLS it LIGHTS': LIT or not", x -> x
        .town("ll142;").due(13, "lamp", 0, 5).due(1, "light", 0, 0).due(13, "lamp", 0, 5));
    t(p + ": the greatest LAMP", x -> x
        .town("ll000;ll000;ll000;ll000;ll000;lm355;").due(2, "lamp", 5, 0).due(-1, "lamp", 6, 0));
    noLamp(p + " '-1'", 0, "lamp", 0, 0);
    noneOf(p + " '-2'", -2, new int[] {LEAST, -1, 6, GREATEST}, 1, "lamp", 3, 0);
    no(p + " '-1' ahead of '-2'", -1, "lamp", 4, 6);
    no(p + " '-1' ahead of '-2'", -1, "lamp", -1, -1);
    no(p + " '-1', no LAMPS", x -> x.due(0, "image"), -1, "lamp", 0, 0);
    inMind(p, "lamp", 1, 1);
    inMind(p, "lamp", 0, 5);
  }

  private static void promise5Wall() {
    String p = "Promise 5";
    t(p + " 'A WALL, or no more: 1, 0 then': the least CELL", x -> x
        .due(1, "wall", 0).due(1, "count", 2).due(0, "wall", 0).due(0, "count", 2));
    t(p + " 'A WALL, or no more: 1, 0 then': the greatest", x -> x
        .due(1, "wall", 35).due(1, "count", 2).due(0, "wall", 35).due(0, "count", 2));
    t(p + " '-6 18': 18 fit", x -> {
      for (int cell = 18; cell < 36; cell++) {
        x.due(1, "wall", cell);
      }
      x.due(18, "count", 2);
    });
    t(p + " '-6 18': one of 18 is no more, and another fits", x -> x
        .town(WALLS_18).due(0, "wall", 3).due(1, "wall", 35).due(-6, "wall", 3));
    t(p + ": where a LAMP is", x -> x.town("ll141;").due(1, "wall", 14).due(1, "lamp", 0, 5));
    t(p + " '-3 somebody is there': no more, when he has gone", x -> x
        .town("p07;").due(-3, "wall", 7).due(1, "go", 0, 8).due(1, "wall", 7).due(-3, "wall", 8));
    noCell(p + " '-1'", 0, "wall", 0);
    no(p + " '-3 somebody is there'", -3, "wall", 2);
    no(p + " '-3 somebody is there', the last", -3, "wall", 13);
    Consumer<Told> full = x -> x.town(WALLS_18 + "p35;").due(0, "image").row(1);
    no(p + " '-6 18'", full, -6, "wall", 18);
    no(p + " '-6 18'", full, -6, "wall", 34);
    no(p + " '-3' ahead of '-6'", full, -3, "wall", 35);
    no(p + " '-1' ahead of '-6'", full, -1, "wall", 36);
  }

  private static void promise6Person() {
    String p = "Promise 6";
    t(p + " 'his number': 0 .. 3", x -> x
        .due(0, "person", 0).due(1, "person", 35).due(2, "person", 0).due(3, "person", 14).due(4, "count", 1));
    t(p + ": no MINUTE, no SCENE by it", x -> x
        .town("ll145;").due(0, "person", 14).due(0, "count", 3).due(0, "count", 4));
    noCell(p + " '-1'", 0, "person", 0);
    no(p + " '-3 a WALL'", -3, "person", 20);
    Consumer<Told> full = x -> x.town("p00;p01;p02;p03;w34;").due(0, "image").row(1);
    no(p + " '-6 4'", full, -6, "person", 35);
    no(p + " '-6 4', where one is", full, -6, "person", 0);
    no(p + " '-3' ahead of '-6'", full, -3, "person", 34);
    no(p + " '-1' ahead of '-6'", full, -1, "person", 36);
    no(p + " '-1' ahead of '-6'", full, -1, "person", LEAST);
  }

  private static void promise7Where() {
    String p = "Promise 7";
    t(p + " 'His CELL': the least and the greatest", x -> x
        .town("p00;p00;p00;p35;").due(0, "where", 0).due(35, "where", 3));
    noPerson(p + " '-1'", 0, "where", 0);
    no(p + " '-1', nobody", x -> x.town("ll000;"), -1, "where", 0);
    inMind(p, "where", 2);
  }

  private static void promise8Go() {
    String p = "Promise 8";
    t(p + " 'STEPS': none", x -> x.town("p35;").due(0, "go", 0, 35).due(35, "where", 0));
    t(p + " 'STEPS': from the least CELL to the greatest", x -> x
        .town("p00;").due(10, "go", 0, 35).due(35, "where", 0).due(10, "count", 3));
    t(p + " 'STEPS': the most that there can be", x -> x
        .walls(6, 7, 8, 9, 10, 15, 19, 23, 26, 27, 28, 30).due(0, "person", 29).due(23, "go", 0, 0));
    t(p + ": he alone GOES", x -> x
        .town("p00;p00;p00;p00;").due(1, "go", 3, 6).due(0, "where", 0).due(0, "where", 2).due(6, "where", 3));
    noPerson(p + " '-1 either'", 0, "go", 0, 1);
    noCell(p + " '-1 either'", 1, "go", 0, 1);
    no(p + " '-1 either', both", -1, "go", 3, 36);
    no(p + " '-1' ahead of '-3'", -1, "go", 3, 20);
    no(p + " '-3 it can not be come to': a WALL", -3, "go", 0, 20);
    no(p + " '-3 it can not be come to': WALLS around it", x -> x
        .town("ll145;p00;w29;w34;").due(0, "image").row(1), -3, "go", 0, 35);
    no(p + " '-3 it can not be come to': WALLS around him", x -> x
        .town("ll145;p00;w01;w06;").due(0, "image").row(1), -3, "go", 0, 35);
    t(p + " '-6 MINUTE above 9999': 9999 is not", x ->
        minute9982(x).due(16, "go", 0, 24).due(1, "go", 0, 25).due(9999, "count", 3));
    t(p + " '-6 MINUTE above 9999': 10000", x ->
        minute9982(x).due(16, "go", 0, 24).due(1, "go", 0, 25).due(-6, "go", 0, 24)
        .due(1, "count", 16).due(9999, "count", 3).due(25, "where", 0));
    t(p + " '-6 MINUTE above 9999': 10005, and no part of the way", x -> minute9982(x).due(-6, "go", 0, 29)
        .due(1, "count", 16).due(9982, "count", 3).due(0, "where", 0));
    t(p + " '-3' ahead of '-6'", x -> minute9982(x).due(16, "go", 0, 24).due(1, "go", 0, 25)
        .due(-3, "go", 0, 26).due(-3, "go", 0, 6).due(2, "count", 13).due(0, "count", 16));
    t(p + " '-1' ahead of '-6'", x -> minute9982(x).due(16, "go", 0, 24).due(1, "go", 0, 25)
        .due(-1, "go", 1, 29).due(-1, "go", 0, 36).due(2, "count", 11).due(0, "count", 16));
    t(p + " '-6 MINUTE above 9999': none passes, where he goes to where he is", x ->
        minute9982(x).due(16, "go", 0, 24).due(1, "go", 0, 25)
        .due(0, "go", 0, 25).due(9999, "count", 3));
  }

  /** To and fro on the longest way, 23 steps from 0 to 29; he ends on 0, 16 steps from 24 and 17 from 25. */
  private static Told minute9982(Told x) {
    x.walls(6, 7, 8, 9, 10, 15, 19, 23, 26, 27, 28, 30).due(0, "person", 0);
    for (int i = 0; i < 434; i++) {
      x.due(23, "go", 0, i % 2 == 0 ? 29 : 0);
    }
    return x.due(9982, "count", 3);
  }

  private static void promise9Light() {
    String p = "Promise 9";
    t(p + " 'what it was': 1, 0", x -> x
        .town("ll000;").due(1, "light", 0, 0).due(0, "light", 0, 0).due(0, "light", 0, 1).due(1, "light", 0, 1));
    t(p + " 'LIT becomes 1, 0': of the greatest LAMP alone", x -> x
        .town("ll000;ll000;ll000;ll000;ll000;ll000;").due(1, "light", 5, 0).due(31, "count", 6).due(0, "light", 5, 1)
        .due(63, "count", 6));
    t(p + ": it keeps its SCENES", x -> x.town("ll145;p14;g015;").due(1, "light", 0, 0).due(1, "lamp", 0, 4));
    t(p + ": a broken one", x -> x
        .town("ll145;p14;g015;b0;").due(0, "light", 0, 1).due(0, "lamp", 0, 4).due(1, "lamp", 0, 3));
    noLamp(p + " '-1'", 0, "light", 0, 1);
    noneOf(p + " '-2'", -2, new int[] {LEAST, -1, 2, GREATEST}, 1, "light", 0, 1);
    noneOf(p + " '-2', one that is LIT", -2, new int[] {LEAST, -1, 2, GREATEST}, 1, "light", 1, 1);
    no(p + " '-1' ahead of '-2'", -1, "light", 4, 2);
    no(p + " '-1' ahead of '-2'", -1, "light", -1, -1);
  }

  private static void promise10Steps() {
    String p = "Promise 10";
    t(p + " 'STEPS': the least and the greatest CELL", x -> x
        .due(0, "steps", 0, 0).due(10, "steps", 0, 35).due(10, "steps", 35, 0));
    t(p + " '-9': to a WALL, from one, cut off", x -> x
        .walls(1, 6).due(-9, "steps", 35, 1).due(-9, "steps", 1, 2).due(-9, "steps", 0, 35).due(-9, "steps", 6, 6));
    t(p + " '-9' is no REFUSAL", x -> x.walls(1).due(-9, "steps", 35, 1).due(0, "count", 11).due(0, "count", 13));
    noCell(p + " '-1 either'", 0, "steps", 0, 1);
    noCell(p + " '-1 either'", 1, "steps", 0, 1);
    no(p + " '-1 either', both: one REFUSAL", -1, "steps", 36, -1);
    inMind(p, "steps", 0, 35);
  }

  private static void promise11Lights() {
    String p = "Promise 11";
    t(p + " '1, 0': the least CELL", x -> x
        .town("ll000;").due(1, "lights", 0, 0).due(0, "lights", 0, 1).due(0, "lights", 0, 35));
    t(p + " '1, 0': the greatest", x -> x
        .town("ll350;").due(1, "lights", 0, 35).due(0, "lights", 0, 34).due(0, "lights", 0, 0));
    t(p + " 'Whether a LAMP LIGHTS it', LIT or not", x -> x.town("ll000;s0;").due(1, "lights", 0, 0));
    noLamp(p + " '-1 either'", 0, "lights", 0, 1);
    noCell(p + " '-1 either'", 1, "lights", 0, 1);
    no(p + " '-1 either', both: one REFUSAL", -1, "lights", 4, 36);
    inMind(p, "lights", 1, 35);
  }

  private static void promise12Shown() {
    String p = "Promise 12";
    Consumer<Told> nine = x -> x.town("ll145;lf145;p00;").due(0, "image").due(9, "go", 0, 34).row(3);
    t(p + " 'who (what 0), CELL (1), MINUTE (2)': the first of 9 and the last", x -> {
      nine.accept(x);
      x.shows(0, 0, 0, 34, 9).shows(0, 8, 0, 1, 1).shows(1, 0, 0, 1, 1).shows(1, 8, 0, 34, 9);
    });
    t(p + " '(what 0; 9)'", x -> x.town("ld000;p01;g000;").due(9, "shown", 0, 0, 0));
    noLamp(p + " '-1 either'", 0, "shown", 0, 0, 0);
    noneOf(p + " '-1 either', no such SCENE (of 2)", -1, new int[] {LEAST, -1, 2, 8, 9, GREATEST}, 1, "shown", 0, 0, 0);
    no(p + " '-1 either', no such SCENE (of 9)", nine, -1, "shown", 0, 9, 0);
    no(p + " '-1 either', no such SCENE (of 9, the oldest first)", nine, -1, "shown", 1, 9, 0);
    no(p + " '-1 either', no such SCENE (of 9, the oldest first)", nine, -1, "shown", 1, -1, 0);
    no(p + " '-1 either', no such SCENE (of none)", x -> x
        .town("lm145;p00;g034;").due(9, "image"), -1, "shown", 0, 0, 0);
    no(p + " '-1 either', both: one REFUSAL", -1, "shown", 4, 9, 0);
    noneOf(p + " '-2'", -2, new int[] {LEAST, -1, 3, GREATEST}, 2, "shown", 0, 1, 0);
    no(p + " '-1' ahead of '-2', the SCENE", -1, "shown", 0, 2, 3);
    no(p + " '-1' ahead of '-2', the LAMP", -1, "shown", 4, 0, -1);
    inMind(p, "shown", 0, 1, 2);
  }

  private static void promise13Seen() {
    String p = "Promise 13";
    t(p + " 'SEEN: who (bits; not 9)': nobody", x -> x
        .town("ll005;ld005;p00;").due(0, "seen", 0).due(1, "go", 0, 1).due(1, "seen", 0).due(0, "seen", 1));
    t(p + " 'SEEN: who (bits)': the greatest PERSON", x -> x.town("ll005;p00;p00;p00;p00;g301;").due(8, "seen", 0));
    noLamp(p + " '-1'", 0, "seen", 0);
    inMind(p, "seen", 0);
  }

  private static void promise14By() {
    String p = "Promise 14";
    t(p + " 'SEEN: LAMPS (bits)': none at 0 and at 9999", x -> x
        .town("ll005;p00;g001;").due(0, "by", 0, 0).due(0, "by", 0, 9999).due(1, "by", 0, 1));
    t(p + " 'SEEN: LAMPS (bits)': the greatest LAMP", x -> x
        .town("lm005;lm005;lm005;lm005;lm005;ll005;p00;g001;").due(32, "by", 0, 1));
    t(p + ": at MINUTE 9999", x -> {
      x.town("ll250;");
      minute9982(x).due(16, "go", 0, 24).due(1, "go", 0, 25).due(1, "by", 0, 9999).due(0, "by", 0, 9998);
    });
    noPerson(p + " '-1'", 0, "by", 0, 1);
    noMinute(p, 1, "by", 0, 1);
    no(p + " '-1' ahead of '-4'", -1, "by", 3, -1);
    no(p + " '-1' ahead of '-6'", -1, "by", -1, 10000);
    inMind(p, "by", 0, 1);
  }

  private static void promise15Unlit() {
    String p = "Promise 15";
    t(p + " 'UNLIT': none told and all", x -> x
        .town("ll000;").due(-9, "unlit", 0, 1, 0).due(1, "unlit", 0, 1, 63).due(1, "unlit", 0, 1, 1)
        .due(-9, "unlit", 0, 1, 62));
    t(p + " 'UNLIT': the least and the greatest CELL", x -> x
        .due(10, "unlit", 0, 35, 0).due(10, "unlit", 35, 0, 63).due(0, "unlit", 35, 35, 0));
    t(p + " '-9' is no REFUSAL", x -> x
        .town("ll000;").due(-9, "unlit", 0, 1, 0).due(0, "count", 11).due(0, "count", 13));
    noCell(p + " '-1 either'", 0, "unlit", 0, 1, 0);
    noCell(p + " '-1 either'", 1, "unlit", 0, 1, 0);
    noneOf(p + " '-4'", -4, new int[] {LEAST, -1}, 2, "unlit", 0, 1, 0);
    noneOf(p + " '-6 63'", -6, new int[] {64, GREATEST}, 2, "unlit", 0, 1, 0);
    no(p + " '-1' ahead of '-4'", -1, "unlit", 36, 0, -1);
    no(p + " '-1' ahead of '-6'", -1, "unlit", 0, -1, 64);
    inMind(p, "unlit", 0, 35, 3);
  }

  private static void promise16Forget() {
    String p = "Promise 16";
    t(p + " '-9': MINUTE 0 and 9999", x -> x
        .town("ll005;p00;g001;").due(-9, "forget", 0, 0).due(-9, "forget", 0, 9999).due(9, "forget", 0, 1)
        .due(0, "count", 11));
    noLamp(p + " '-1'", 0, "forget", 0, 1);
    noMinute(p, 1, "forget", 0, 1);
    no(p + " '-1' ahead of '-4'", -1, "forget", 4, -1);
    no(p + " '-1' ahead of '-6'", -1, "forget", -1, 10000);
    inMind(p, "forget", 0, 1);
  }

  private static void promise17Knows() {
    String p = "Promise 17";
    t(p + " 'who KNOWS': nobody at 0 and at 9999", x -> x
        .town("ll005;p00;g001;").due(0, "knows", 0, 1, 0).due(0, "knows", 0, 1, 9999).due(1, "knows", 0, 1, 1));
    t(p + " 'who KNOWS': of the least CELL and the greatest", x -> x
        .town("ll350;lo000;p34;p01;g035;g100;").due(1, "knows", 0, 35, 1).due(2, "knows", 1, 0, 2)
        .due(0, "knows", 0, 0, 1));
    t(p + " 'who KNOWS (bits)': all four", x -> x
        .town("ll005;p00;p00;p00;p00;g301;").due(15, "knows", 3, 1, 1).due(0, "knows", 0, 1, 1));
    t(p + " 'who KNOWS': at MINUTE 9999", x -> {
      x.town("ll250;");
      minute9982(x).due(16, "go", 0, 24).due(1, "go", 0, 25).due(1, "knows", 0, 25, 9999).due(0, "knows", 0, 25, 9998);
    });
    noPerson(p + " '-1 either'", 0, "knows", 0, 1, 1);
    noCell(p + " '-1 either'", 1, "knows", 0, 1, 1);
    no(p + " '-1 either', both: one REFUSAL", -1, "knows", 3, 36, 1);
    noMinute(p, 2, "knows", 0, 1, 1);
    no(p + " '-1' ahead of '-4'", -1, "knows", 3, 1, -1);
    no(p + " '-1' ahead of '-6'", -1, "knows", 0, 36, 10000);
    inMind(p, "knows", 0, 1, 1);
  }

  private static void promise18And19Known() {
    t("Promise 18 'KNOWN': nothing", x -> x.town("ll005;p00;").due(0, "known", 0));
    t("Promise 18 'KNOWN': of the greatest PERSON", x -> x
        .town("ll000;p35;p35;p35;p01;g300;").due(1, "known", 3).due(0, "known", 0));
    noPerson("Promise 18 '-1'", 0, "known", 0);
    inMind("Promise 18", "known", 0);
    t("Promise 19 'ALL KNOW': no LAMPS, nobody", x -> x.due(0, "allKnow").town("p00;").due(0, "allKnow"));
    t("Promise 19 'ALL KNOW': all that six LAMPS have", x -> {
      x.town("ll144;ld144;lk144;lo144;lf144;lm144;p00;").due(9, "go", 0, 34).due(0, "allKnow").due(3, "go", 0, 31);
      // The last nine cells of eleven: l, o and f have them alike with who, d and k alike without.
      x.due(18, "allKnow");
    });
    inMind("Promise 19", "allKnow");
  }

  private static void promise20WhereAt() {
    String p = "Promise 20";
    t(p + " 'how many (i -1), the i-th': the first, the last and one more", x -> x
        .town("p00;").due(36, "whereAt", 0, 0, -1).due(0, "whereAt", 0, 0, 0).due(35, "whereAt", 0, 0, 35)
        .due(-9, "whereAt", 0, 0, 36));
    t(p + " '-9 none such': the greatest i", x -> x
        .town("p00;").due(-9, "whereAt", 0, 0, GREATEST).due(-9, "whereAt", 0, 9999, GREATEST).due(0, "count", 11));
    t(p + " '-9 none such': of none", x -> x
        .town("lo140;p13;g014;g013;w14;").due(0, "whereAt", 0, 1, -1).due(-9, "whereAt", 0, 1, 0));
    t(p + ": at MINUTE 9999", x -> {
      x.town("ll250;");
      minute9982(x).due(16, "go", 0, 24).due(1, "go", 0, 25).due(1, "whereAt", 0, 9999, -1).due(25, "whereAt", 0, 9999, 0);
      // 24 cells are free; the lamp has 9 scenes, so that he can have been on 25, too.
      x.due(3, "whereAt", 0, 9998, -1).due(24, "whereAt", 0, 0, -1);
    });
    noPerson(p + " '-1'", 0, "whereAt", 0, 1, 0);
    noMinute(p, 1, "whereAt", 0, 1, 0);
    noneOf(p + " '-4 (i below -1)'", -4, new int[] {LEAST, -2}, 2, "whereAt", 0, 1, 0);
    no(p + " '-1' ahead of '-4'", -1, "whereAt", 3, -1, 0);
    no(p + " '-1' ahead of '-4 (i below -1)'", -1, "whereAt", 3, 1, -2);
    no(p + " '-1' ahead of '-6'", -1, "whereAt", 3, 10000, 0);
    no(p + " '-4 (i below -1)' ahead of '-6'", -4, "whereAt", 0, 10000, -2);
    inMind(p, "whereAt", 0, 1, 0);
  }

  private static void promise21Next() {
    String p = "Promise 21";
    t(p + " 'NEXT': MINUTE 0 and 9999", x -> x.town("lm142;p00;").due(0, "next", 0, 0).due(0, "next", 0, 9999));
    t(p + " 'NEXT': the greatest LAMP", x -> x.town("lm000;lm000;lm000;lm000;lm000;lm142;p00;").due(5, "next", 0, 0));
    t(p + " '-9' is no REFUSAL", x -> x.town("p00;").due(-9, "next", 0, 0).due(0, "count", 11));
    noPerson(p + " '-1'", 0, "next", 0, 1);
    noMinute(p, 1, "next", 0, 1);
    no(p + " '-1' ahead of '-4'", -1, "next", 3, -1);
    no(p + " '-1' ahead of '-6'", -1, "next", -1, 10000);
    inMind(p, "next", 0, 1);
  }

  private static void promise22Fewest() {
    String p = "Promise 22";
    t(p + " 'FEWEST by the ROW': an empty one", x -> x.due(0, "fewest"));
    t(p + " '(bits; it stays)'", x -> x
        .town("ll355;").row(35, 29).due(1, "fewest").due(2, "count", 7).due(1, "fewest"));
    t(p + " '-9': it stays, too", x -> x
        .town("ll350;").row(0).due(-9, "fewest").due(1, "count", 7).due(0, "count", 13));
    t(p + " '-3 one of it above 35': 35 is not", x -> x.town("ll350;").row(35).due(1, "fewest"));
    no(p + " '-3 one of it above 35': 36", x -> x.town("ll350;p00;").due(0, "image").row(35, 36), -3, "fewest");
    no(p + " '-3 one of it above 35': 99, the first", x -> x
        .town("ll350;p00;").due(0, "image").row(99, 35), -3, "fewest");
    no(p + " '-3 one of it above 35': the last of twelve", x -> x
        .town("ll350;p00;").due(0, "image").row(35, 35, 35, 35, 35, 35, 35, 35, 35, 35, 35, 64), -3, "fewest");
    no(p + " '-3' ahead of '-9'", x -> x.town("ll350;p00;").due(0, "image").row(0, 36), -3, "fewest");
    no(p + " '-3', no LAMPS", x -> x.row(36), -3, "fewest");
    inMind(p, "fewest");
  }

  private static void promise23OneMore() {
    String p = "Promise 23";
    t(p + " 'how many (what 0), the CELL (1)': RANGE 0 and 5", x -> x
        .due(1, "oneMore", 0, 0).due(0, "oneMore", 0, 1).due(35, "oneMore", 5, 0).due(14, "oneMore", 5, 1));
    noneOf(p + " '-4'", -4, new int[] {LEAST, -1}, 0, "oneMore", 0, 0);
    noneOf(p + " '-6 5'", -6, new int[] {6, GREATEST}, 0, "oneMore", 0, 0);
    noneOf(p + " '-2'", -2, new int[] {LEAST, -1, 2, GREATEST}, 1, "oneMore", 5, 0);
    no(p + " '-4' ahead of '-2'", -4, "oneMore", -1, 2);
    no(p + " '-6 5' ahead of '-2'", -6, "oneMore", 6, -1);
    inMind(p, "oneMore", 5, 1);
  }

  private static void promise24Two() {
    String p = "Promise 24";
    t(p + " 'TWO': none and 9", x -> x
        .town("ll145;ld145;lm145;p00;g034;").due(9, "two", 0, 1).due(0, "two", 0, 2).due(0, "two", 2, 0)
        .due(9, "two", 1, 1));
    noLamp(p + " '-1 either'", 0, "two", 0, 1);
    noLamp(p + " '-1 either'", 1, "two", 0, 1);
    no(p + " '-1 either', both: one REFUSAL", -1, "two", 4, -1);
    inMind(p, "two", 0, 1);
  }

  private static void promise25Swap() {
    String p = "Promise 25";
    t(p + " 'SWAP': with itself", x -> x.town("ll140;").due(0, "swap", 0, 0));
    t(p + " 'SWAP': the greatest LAMP", x -> x
        .town("ll140;ll140;ll140;ll140;ll140;ll005;").due(14, "swap", 5, 0).due(14, "swap", 0, 5));
    t(p + " '(in mind)'", x -> x
        .town("ll140;ll005;").due(14, "swap", 0, 1).due(14, "lamp", 0, 1).due(0, "lamp", 1, 1).due(14, "swap", 0, 1));
    noLamp(p + " 'Refused as told: -1 either'", 0, "swap", 0, 1);
    noLamp(p + " 'Refused as told: -1 either'", 1, "swap", 0, 1);
    no(p + " 'Refused as told: -1 either', both: one REFUSAL", 1000000001, "swap", 4, -1);
    inMind(p, "swap", 0, 1);
    inMind(p, "swap", 1, 2);
  }

  private static void promise26Row() {
    String p = "Promise 26";
    t(p + " '(0 .. 99)': 0", x -> x.due(1, "row", 0).due(1, "count", 7));
    t(p + " '(0 .. 99)': 99", x -> x.due(1, "row", 99).due(1, "count", 7));
    t(p + " 'how many': twelve", x -> x.row(0, 1, 2, 3, 4, 5, 6, 7, 8, 9, 10, 99).due(12, "count", 7));
    t(p + " 'how many': behind caught() it begins again, and twelve fit", x -> x
        .town("p00;").row(0, 1, 2, 3, 4, 5, 6, 7, 8, 9, 10, 99)
        .due(-9, "caught", 0).row(0, 1, 2, 3, 4, 5, 6, 7, 8, 9, 10, 99).due(-6, "row", 0));
    noneOf(p + " '-4'", -4, new int[] {LEAST, -1}, 0, "row", 0);
    noneOf(p + " '-6 (99)'", -6, new int[] {100, GREATEST}, 0, "row", 0);
    Consumer<Told> full = x -> x.town("ll350;p00;").due(0, "image").row(0, 1, 2, 3, 4, 5, 11, 10, 9, 8, 7, 6);
    no(p + " '-6 (12, too)'", full, -6, "row", 0);
    no(p + " '-6 (12, too)'", full, -6, "row", 99);
    no(p + " '-6 (99; 12, too)', both", full, -6, "row", 100);
    no(p + " '-4' ahead of '-6 (12, too)'", full, -4, "row", -1);
  }

  private static void promise27Judge() {
    String p = "Promise 27";
    t(p + " 'JUDGED': the first place and the last", x -> x
        .town("p00;p35;").row(0, 0, 0, 0, 0, 0, 0, 0, 0, 0, 0, 2).due(0, "judge", 1).due(11, "judge", 0));
    t(p + " '-9 (the ROW stays)'", x -> x
        .town("p00;").row(0, 1).due(-9, "judge", 0).due(2, "count", 7).due(0, "count", 11));
    t(p + " '(the ROW stays)': judged 1, too", x -> x
        .town("p00;").row(0, 2).due(1, "judge", 0).due(2, "count", 7).due(1, "judge", 0));
    noPerson(p + " '-1'", 0, "judge", 0);
    no(p + " '-1', nobody", x -> x.row(3), -1, "judge", 0);
    inMind(p, "judge", 0);
  }

  private static void promise28Caught() {
    String p = "Promise 28";
    t(p + " 'CAUGHT': the first place and the last", x -> x
        .town("ll000;p00;").row(0).due(0, "caught", 0).row(1, 1, 1, 1, 1, 1, 1, 1, 1, 1, 1, 0).due(11, "caught", 0));
    t(p + " '(the ROW has none then)': behind -9", x -> x
        .town("p00;").row(1, 2).due(-9, "caught", 0).due(0, "count", 7).due(0, "fewest").due(-9, "judge", 0));
    t(p + " '(the ROW has none then)': behind a place", x -> x
        .town("ll000;p00;").row(0, 2).due(0, "caught", 0).due(0, "count", 7).due(-9, "caught", 0));
    t(p + " '(the ROW has none then)': and a new one begins at 0", x -> x
        .town("ll000;p00;").row(9, 0).due(1, "caught", 0).row(0).due(0, "caught", 0));
    noPerson(p + " '-1 (it stays)'", 0, "caught", 0);
    no(p + " '-1 (it stays)', nobody", x -> x.town("ll000;").due(0, "image").row(0, 1), -1, "caught", 0);
  }

  private static void promise29Lots() {
    String p = "Promise 29";
    t(p + " 'n walks (1 .. 20)': 1 and 20", x -> x
        .town("ll070;p07;").walls(1, 6, 8, 13).due(12, "lots", 0, 1, 0).due(240, "lots", 0, 20, 0));
    t(p + " 'z': the least and the greatest", x -> x
        .town("ll070;p07;").walls(1, 6, 8, 13).due(12, "lots", 0, 1, LEAST).due(12, "lots", 0, 1, GREATEST));
    t(p + " 'of one': each from his own CELL", x -> x
        .town("ll070;p07;p35;").walls(1, 6, 8, 13).due(12, "lots", 0, 1, 9).due(0, "lots", 1, 20, 9));
    t(p + " 'of one': the greatest PERSON", x -> x
        .town("ll350;p00;p00;p00;p35;").walls(29, 34).due(12, "lots", 3, 1, 9));
    noPerson(p + " '-1'", 0, "lots", 0, 1, 7);
    noneOf(p + " '-4'", -4, new int[] {LEAST, -1, 0}, 1, "lots", 0, 1, 7);
    noneOf(p + " '-6 20'", -6, new int[] {21, GREATEST}, 1, "lots", 0, 1, 7);
    no(p + " '-1' ahead of '-4'", -1, "lots", 3, 0, 7);
    no(p + " '-1' ahead of '-6'", -1, "lots", -1, 21, 7);
    inMind(p, "lots", 0, 20, LEAST);
  }

  private static void promise30And31Image() {
    t("Promise 30 'MINUTE': 0", x -> x.due(0, "image").due(0, "on"));
    t("Promise 30 'MINUTE': 9999", x -> minute9982(x).due(16, "go", 0, 24).due(1, "go", 0, 25).due(9999, "image")
        .due(0, "wall", 6).due(9999, "on").due(12, "count", 2).due(9999, "count", 3).due(25, "where", 0));
    t("Promise 30 'THE IMAGE is taken': behind 9999 ON from an earlier one, and MINUTES pass again", x -> {
      x.due(0, "image");
      minute9982(x).due(0, "on").due(0, "count", 3).due(0, "person", 0).due(10, "go", 0, 35).due(10, "count", 3);
    });
    no("Promise 31 '-3 there is none'", x -> x.town("ll145;p00;g003;").row(1), -3, "on");
    no("Promise 31 '-3 there is none': of nothing", x -> { }, -3, "on");
    t("Promise 31 'ON from it': there is one, and it stays", x -> x
        .due(-3, "on").due(0, "image").due(0, "on").due(0, "on").due(1, "count", 13));
    TWINS.unchanged("Promise 30: nothing but THE IMAGE is changed, and that is as all is",
        x -> x.town("ll145;p00;g003;").row(1).due(3, "image"), x -> x.due(3, "image"));
  }

  private static void promise32Count() {
    String p = "Promise 32";
    t(p + " '0 LAMPS' to '8 letters': of nothing", x -> {
      for (int what = 0; what <= 8; what++) {
        x.due(0, "count", what);
      }
    });
    t(p + " '0 LAMPS': 6", x -> x.town("ll000;ll000;ll000;ll000;ll000;ll000;").due(6, "count", 0));
    t(p + " '1 PEOPLE': 4", x -> x.town("p00;p00;p00;p00;").due(4, "count", 1));
    t(p + " '2 WALLS': 18", x -> x.town(WALLS_18).due(18, "count", 2));
    t(p + " '3 MINUTE': 9999", x -> minute9982(x).due(16, "go", 0, 24).due(1, "go", 0, 25).due(9999, "count", 3));
    t(p + " '4 all SCENES': 54 of six LAMPS", x -> x
        .town("ll145;ll145;ld145;lo145;lf145;lc000;p00;g034;").due(54, "count", 4));
    t(p + " '5 CELLS that LIT LAMPS LIGHT': all, each once", x -> x
        .town("ll145;ll145;ll350;").due(36, "count", 5).due(1, "light", 2, 0).due(35, "count", 5)
        .due(1, "light", 1, 0).due(35, "count", 5).due(1, "light", 0, 0).due(0, "count", 5));
    t(p + " '6 who is LIT (bits of LAMPS)': none and all", x -> x
        .town("ll000;ll000;ll000;ll000;ll000;ll000;").due(63, "count", 6)
        .town("s0;s1;s2;s3;s4;").due(32, "count", 6).town("s5;").due(0, "count", 6));
    t(p + " '7 in the ROW': 12", x -> x.row(0, 0, 0, 0, 0, 0, 0, 0, 0, 0, 0, 0).due(12, "count", 7));
    t(p + " '8 letters': 96", x -> x.letters("w34;".repeat(24)).due(96, "count", 8).due(24, "town").due(0, "count", 8));
    t(p + " '11 .. 16 REFUSALS -1 .. -6'", x -> {
      x.due(-1, "where", 0);
      for (int i = 0; i < 2; i++) {
        x.due(-2, "oneMore", 0, 2);
      }
      for (int i = 0; i < 3; i++) {
        x.due(-3, "on");
      }
      for (int i = 0; i < 4; i++) {
        x.due(-4, "letter", -1);
      }
      for (int i = 0; i < 6; i++) {
        x.due(-6, "letter", 256);
      }
      x.due(1, "count", 11).due(2, "count", 12).due(3, "count", 13).due(4, "count", 14).due(0, "count", 15)
          .due(6, "count", 16);
    });
    for (int what : new int[] {LEAST, -9, -1, 9, 10, 17, 27, GREATEST}) {
      t(p + " '-9 for another what': " + what, x -> x.due(-9, "count", what));
      inMind(p, "count", what);
    }
    t(p + " REFUSALS: as many as calls can be", x -> {
      for (int i = 0; i < 511; i++) {
        x.due(-1, "wall", 36);
      }
      x.due(511, "count", 11);
    });
  }
}
