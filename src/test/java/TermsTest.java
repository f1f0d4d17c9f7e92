import java.util.function.Consumer;

/** One test for each sentence of "Terms" that names a boundary case: parts I and II, THE IMAGE, the REFUSALS. */
public final class TermsTest {
  private static final int LEAST = Integer.MIN_VALUE;
  private static final int GREATEST = Integer.MAX_VALUE;
  private static final String KINDS = "ldmckof";
  /** A town with each statement, and beside it what may stand where: a Statement, a Kind, a Digit, the sign itself. */
  private static final String EACH = "ll142;w35;p00;g007;s0;b0;";
  private static final String FORM = "SKDDD;SDD;SDD;SDDD;SD;SD;";
  private static final String WALLS_18 = "w00;w01;w02;w03;w04;w05;w06;w07;w08;w09;w10;w11;w12;w13;w14;w15;w16;w17;";

  private static final Checks C = new Checks("TermsTest");
  private static final Twins TWINS = new Twins(C);

  public static void main(String[] args) {
    use();
    cells();
    wallsLampsPeople();
    minutes();
    townForm();
    townKind1();
    townKind2();
    townKind2Rooms();
    townMinutes();
    townAll();
    broken();
    steps();
    lights();
    goes();
    keeps();
    kinds();
    overlaid();
    carried();
    shownAndSeen();
    unlit();
    toForget();
    coldNight();
    where();
    whereByLamps();
    next();
    fewest();
    oneMore();
    twoAndSwap();
    judgedAndCaught();
    lots();
    image();
    refusals();
    C.end();
  }

  private static void t(String sentence, Consumer<Told> body) {
    C.test("Terms, " + sentence, body);
  }

  private static String twoDigits(int n) {
    return "" + n / 10 + n % 10;
  }

  private static int apart(int one, int other) {
    return Math.abs(one / 6 - other / 6) + Math.abs(one % 6 - other % 6);
  }

  // ---- I. ----

  private static void use() {
    t("'at most 512 calls': the 512th answers as due", x -> {
      x.town("ll005;p00;");
      for (int i = 1; i <= 499; i++) {
        x.due(1, "go", 0, i % 2);
      }
      x.due(499, "shown", 0, 0, 2);
    });
  }

  private static void cells() {
    for (int one = 0; one < 36; one++) {
      int from = one;
      t("'row CELL by 6, column CELL modulo 6': steps from " + from, x -> {
        for (int to = 0; to < 36; to++) {
          x.due(apart(from, to), "steps", from, to);
        }
      });
      t("'beside one: up, left, right, down in the square', none around its edge: light of 1 on " + from, x -> {
        x.town("ll" + twoDigits(from) + "1;");
        for (int to = 0; to < 36; to++) {
          x.due(apart(from, to) <= 1 ? 1 : 0, "lights", 0, to);
        }
      });
    }
    t("'CELLS 0 .. 35': the least", x -> x.town("ll000;p00;").due(0, "lamp", 0, 1).due(0, "where", 0));
    t("'CELLS 0 .. 35': the greatest", x -> x.town("ll350;p35;").due(35, "lamp", 0, 1).due(35, "where", 0));
    t("'CELLS 0 .. 35': none below", x -> x.due(-1, "wall", -1).due(-1, "person", -1).due(-1, "steps", -1, 0));
    t("'CELLS 0 .. 35': none above", x -> x.due(-1, "wall", 36).due(-1, "person", 36).due(-1, "steps", 36, 0));
    t("'CELLS 0 .. 35': the 32nd bit does not wrap around", x -> x
        .walls(0, 3).due(0, "steps", 32, 32).due(0, "steps", 35, 35));
    t("'CELLS 0 .. 35': the wall 32 is not 0", x -> x
        .walls(32, 35).due(0, "steps", 0, 0).due(0, "steps", 3, 3).due(-9, "steps", 32, 32));
  }

  private static void wallsLampsPeople() {
    t("'WALLS (18 CELLS at most)': 18", x -> x.town(WALLS_18).due(18, "count", 2));
    t("'WALLS (18 CELLS at most)': not 19", x -> x.town(WALLS_18).due(-6, "wall", 35).due(18, "count", 2));
    t("'nobody goes through one'", x -> x.walls(1, 7, 13, 19, 25).town("p00;").due(12, "go", 0, 2));
    t("'no light goes through one'", x -> x
        .town("ll005;w01;w06;").due(1, "lamp", 0, 5).due(0, "lights", 0, 2).due(0, "lights", 0, 1));
    t("'LAMPS 0 .. as they come (6 at most)': 6", x -> {
      x.town("ll000;ll010;ll020;").town("ll030;ll040;ll050;").due(6, "count", 0);
      for (int i = 0; i < 6; i++) {
        x.due(i, "lamp", i, 1);
      }
    });
    t("'LAMPS 0 .. as they come (6 at most)': not 7", x -> x
        .town("ll000;ll010;ll020;ll030;ll040;ll050;").town("ll060;", -2000).due(6, "count", 0).due(-1, "lamp", 6, 1));
    t("'RANGE (0 .. 5)': 0", x -> x.town("ll140;").due(0, "lamp", 0, 2).due(1, "lamp", 0, 5).due(1, "lights", 0, 14));
    t("'RANGE (0 .. 5)': 5", x -> x.town("ll145;").due(5, "lamp", 0, 2).due(35, "lamp", 0, 5).due(0, "lights", 0, 35));
    t("'RANGE (0 .. 5)': not 6", x -> x.town("ll146;", -2000).due(0, "count", 0));
    t("'LIT (at first)'", x -> x.town("ll140;lm000;").due(1, "lamp", 0, 3).due(1, "lamp", 1, 3).due(3, "count", 6));
    t("'PEOPLE 0 .. 3 as they come (4 at most)': 4", x -> {
      x.town("p35;p00;").due(2, "person", 7).due(3, "person", 7).due(4, "count", 1);
      x.due(35, "where", 0).due(0, "where", 1).due(7, "where", 2).due(7, "where", 3);
    });
    t("'PEOPLE 0 .. 3 as they come (4 at most)': not 5", x -> x
        .town("p35;p00;p00;p00;").due(-6, "person", 7).town("p07;", -2000).due(4, "count", 1).due(-1, "where", 4));
    t("'each on a CELL that is no WALL': nobody comes on one", x -> x.walls(7).due(-3, "person", 7).due(0, "count", 1));
    t("'each on a CELL that is no WALL': none comes on him", x -> x.town("p07;").due(-3, "wall", 7).due(0, "count", 2));
  }

  private static void minutes() {
    t("'MINUTE (0 at first)'", x -> x.due(0, "count", 3).due(0, "image"));
    t("'MINUTE (0 .. 9999)': 9999", x -> to9999(x).due(9999, "count", 3));
    t("'MINUTE (0 .. 9999)': not 10000", x -> to9999(x).due(-6, "go", 0, 24).due(9999, "count", 3).due(25, "where", 0));
  }

  /** Walks to and fro on the longest way that the square has, of 23 steps, and ends on 25 at minute 9999. */
  private static Told to9999(Told x) {
    x.walls(6, 7, 8, 9, 10, 15, 19, 23, 26, 27, 28, 30).due(0, "person", 0);
    for (int i = 0; i < 434; i++) {
      x.due(23, "go", 0, i % 2 == 0 ? 29 : 0);
    }
    return x.due(16, "go", 0, 24).due(1, "go", 0, 25);
  }

  // ---- a town in letters ----

  private static void townForm() {
    for (int i = 0; i < KINDS.length(); i++) {
      int kind = i;
      t("'\"l\" a letter of a KIND, CELL (2 digits), RANGE (a digit)': " + KINDS.charAt(i), x -> x
          .town("l" + KINDS.charAt(kind) + "075;").due(kind, "lamp", 0, 0).due(7, "lamp", 0, 1).due(5, "lamp", 0, 2));
    }
    t("'\"w\" CELL (2 digits): it is a WALL'", x -> x.town("w34;").due(1, "count", 2).due(-9, "steps", 34, 34));
    t("'\"w\" .. or no more'", x -> x.town("w34;w34;").due(0, "count", 2).due(0, "steps", 34, 34));
    t("'\"p\" CELL (2 digits): a PERSON more'", x -> x
        .town("p34;p05;").due(2, "count", 1).due(34, "where", 0).due(5, "where", 1));
    t("'\"g\" a PERSON (a digit), CELL (2 digits): he GOES there'", x -> x
        .town("p34;p05;g104;g133;").due(34, "where", 0).due(33, "where", 1).due(7, "count", 3));
    t("'\"s\" a LAMP (a digit): it is LIT, or no more'", x -> x
        .town("ll000;ll010;s1;").due(1, "count", 6).town("s1;s0;").due(2, "count", 6));
    t("'\"b\" a LAMP (a digit): it is broken'", x -> x.town("ll000;ll010;b1;").due(1, "count", 6));
    t("'96 at most': a TOWN of 96 letters", x -> x.town("w34;".repeat(23) + "w35;").due(2, "count", 2));
    t("'At least one STATEMENT'", x -> x.town("w34;", 1).town("", -1000));
    t("'A TOWN is told in letters, one by one': those of a TOWN ahead are no part of the next", x -> x
        .town("w3", -1002).town("4;", -1000));
  }

  private static void townKind1() {
    for (int i = 0; i < EACH.length(); i++) {
      int place = i;
      t("'the first letter with which no TOWN can go on', place " + place, x -> eachLetterAt(place));
    }
    for (int i = 0; i <= EACH.length(); i++) {
      String text = EACH.substring(0, i);
      boolean whole = text.endsWith(";");
      t("'(the end, if something lacks)': " + text, x -> {
        if (whole) {
          x.town(text);
        } else {
          x.town(text, -1000 - text.length());
        }
      });
    }
    t("'-1000 less the place': the greatest place of a letter", x -> x.town("w34;".repeat(23) + "w34l", -1095));
    t("'-1000 less the place': the end behind 95 letters", x -> x.town("w34;".repeat(23) + "w34", -1095));
    t("'-1000 less the place': the end behind 96 letters", x -> x.town("w34;".repeat(23) + "ll00", -1096));
    t("'kind 1 .. else kind 2': a later one of kind 1 goes ahead", x -> x.town("w36;g999;s9;x", -1012));
    t("'kind 1 .. else kind 2': a later lack goes ahead", x -> x.town("w36;s9", -1006));
    t("'the first letter': of two the first", x -> x.town("w3x;wx3;", -1002));
    t("'can go on': with no capitals", x -> x.town("W34;", -1000).town("lL000;", -1001));
  }

  private static void eachLetterAt(int place) {
    for (int letter = 0; letter <= 255; letter++) {
      Told x = new Told(C);
      String text = EACH.substring(0, place) + (char) letter + EACH.substring(place + 1);
      x.letters(text);
      int answer = x.ask("town");
      String call = "town() with letter " + letter + " at place " + place;
      if (mayStand(FORM.charAt(place), letter)) {
        C.holds(call + " has no fault of kind 1 there, but " + answer, answer != -1000 - place);
      } else {
        C.due(call, answer, -1000 - place);
      }
    }
  }

  private static boolean mayStand(char form, int letter) {
    String letters = form == 'S' ? "lwpgsb" : form == 'K' ? KINDS : form == 'D' ? "0123456789" : "" + form;
    return letters.indexOf(letter) >= 0;
  }

  private static void kind2(String what, String text, int due) {
    String sentence = "Terms, '(" + what + ")': " + text;
    TWINS.unchanged(sentence, x -> x.row(3, 4).town("w30;").due(0, "image").town("w31;"), x -> x.town(text, due));
  }

  private static void fine(String what, String text) {
    t("not '(" + what + ")': " + text, x -> x.town(text));
  }

  private static void townKind2() {
    String number = "a number out of range";
    kind2(number, "ll360;", -2000);
    kind2(number, "ll990;", -2000);
    fine(number, "ll355;");
    kind2(number, "ll006;", -2000);
    kind2(number, "ll009;", -2000);
    fine(number, "ll005;");
    kind2(number, "w36;", -2000);
    kind2(number, "w99;", -2000);
    fine(number, "w35;");
    kind2(number, "p36;", -2000);
    kind2(number, "p99;", -2000);
    fine(number, "p35;");
    kind2(number, "p00;g036;", -2004);
    kind2(number, "p00;g099;", -2004);
    fine(number, "p00;g035;");
    String lamp = "no such LAMP ahead of it";
    kind2(lamp, "s0;", -2000);
    kind2(lamp, "s9;", -2000);
    kind2(lamp, "s0;ll000;", -2000);
    kind2(lamp, "ll000;s1;ll000;", -2006);
    fine(lamp, "ll000;s0;");
    fine(lamp, "ll000;ll000;ll000;ll000;ll000;ll000;s5;");
    kind2(lamp, "ll000;ll000;ll000;ll000;ll000;ll000;s6;", -2036);
    kind2(lamp, "b0;", -2000);
    kind2(lamp, "b9;", -2000);
    kind2(lamp, "b0;ll000;", -2000);
    kind2(lamp, "ll000;b1;ll000;", -2006);
    fine(lamp, "ll000;b0;b0;");
    String person = "no such PERSON ahead of it";
    kind2(person, "g000;", -2000);
    kind2(person, "g000;p00;", -2000);
    kind2(person, "p00;g100;p00;", -2004);
    kind2(person, "p00;p00;p00;p00;g400;", -2016);
    kind2(person, "p00;g900;", -2004);
    fine(person, "p00;p00;p00;p00;g301;");
    String somebody = "a WALL where somebody is";
    kind2(somebody, "p05;w05;", -2004);
    kind2(somebody, "p05;p04;w04;", -2008);
    kind2(somebody, "p05;g003;w03;", -2009);
    fine(somebody, "p05;g003;w05;");
    fine(somebody, "p05;g003;w04;");
    String isOne = "a CELL that is one";
    kind2(isOne, "w05;p05;", -2004);
    kind2(isOne, "p04;w05;g005;", -2008);
    fine(isOne, "w05;w05;p05;");
    fine(isOne, "w05;ll050;");
    String cut = "can not be come to";
    kind2(cut, "p00;w01;w06;g035;", -2012);
    kind2(cut, "p00;w01;w06;g007;", -2012);
    fine(cut, "p00;w01;w06;g000;");
    fine(cut, "p00;w01;w06;w06;g035;");
    kind2("of the first STATEMENT", "w00;w36;w99;", -2004);
    kind2("of the first STATEMENT", "w36;w00;w99;", -2000);
  }

  private static void townKind2Rooms() {
    String room = "no room for more";
    kind2(room, "p00;p00;p00;p00;p00;", -2016);
    fine(room, "p00;p00;p00;p00;");
    kind2(room, "ll000;ll000;ll000;ll000;ll000;ll000;ll000;", -2036);
    fine(room, "ll000;ll000;ll000;ll000;ll000;ll000;");
    kind2(room, "w00;w01;w02;w03;w04;w05;w06;w07;w08;w09;w10;w11;w12;w13;w14;w15;w16;", -2064);
    fine(room, WALLS_18);
    t("'(no room for more)': the greatest place", x -> x
        .town("p35;" + "w34;".repeat(4) + WALLS_18 + "w33;", -2092).due(0, "count", 2));
    t("'(no room for more)': a WALL may be no more, though there are 18", x -> x
        .town(WALLS_18).town("w17;w18;w00;w17;").due(18, "count", 2));
    t("'(no room for more)': those there before are counted, LAMPS", x -> x
        .town("ll000;ll000;ll000;").town("ll000;ll000;ll000;ll000;", -2018).due(3, "count", 0));
    t("'(no room for more)': those there before are counted, PEOPLE", x -> x
        .town("p00;p00;p00;").town("p00;p00;", -2004).due(3, "count", 1));
    t("'(no room for more)': those there before are counted, WALLS", x -> x
        .town(WALLS_18).town("w00;w18;w19;", -2008).due(18, "count", 2));
  }

  private static void townMinutes() {
    t("'(MINUTE above 9999)'", x -> to9999(x).town("w02;w02;g024;", -2008).due(9999, "count", 3).due(25, "where", 0));
    t("'(MINUTE above 9999)' where he is none passes", x -> to9999(x).town("g025;").due(9999, "count", 3));
    t("'behind all ahead of it in the text': MINUTES, too", x -> {
      x.walls(6, 7, 8, 9, 10, 15, 19, 23, 26, 27, 28, 30).due(0, "person", 0);
      for (int i = 0; i < 434; i++) {
        x.due(23, "go", 0, i % 2 == 0 ? 29 : 0);
      }
      // 9982: 16 more to 24, one more to 25, and then there is none left.
      x.town("g024;g025;g024;", -2010).due(9982, "count", 3).due(0, "where", 0);
      x.town("g024;g025;").due(9999, "count", 3).due(25, "where", 0);
    });
  }

  private static void townAll() {
    t("'Without FAULT all of it comes'", x -> {
      x.town("p00;").town(EACH).due(2, "count", 3).due(7, "where", 0).due(1, "count", 0).due(2, "count", 1)
          .due(1, "count", 2);
    });
    TWINS.unchanged("Terms, 'with one nothing': a fault of kind 2 at the end",
        x -> x.town("ll145;lo145;p00;w30;g003;").due(3, "image").town("g005;").row(3),
        x -> x.town("ll142;p35;w00;w30;g006;g134;s0;b1;s2;w36;", -2037));
    TWINS.unchanged("Terms, 'with one nothing': a fault of kind 1 at the end",
        x -> x.town("ll145;lo145;p00;w30;g003;").due(3, "image").town("g005;").row(3),
        x -> x.town("ll142;p35;w00;w30;g006;g134;s0;b1;s2;w36", -1040));
    t("'with one nothing': a TOWN without FAULT comes behind it as if there had been none", x -> x
        .town("ll145;p00;").town("p35;g030;b0;w00;w36;", -2016).town("p35;g002;").due(2, "count", 3)
        .due(2, "lamp", 0, 4).due(35, "where", 1));
  }

  private static void broken() {
    t("'it has no SCENES then'", x -> x
        .town("ll005;p00;g003;").due(3, "lamp", 0, 4).town("b0;").due(0, "lamp", 0, 4).due(-1, "shown", 0, 0, 0));
    t("'is not LIT'", x -> x.town("ll005;b0;").due(0, "lamp", 0, 3).due(0, "count", 6).due(0, "count", 5));
    t("a broken one that was not LIT is not LIT", x -> x.town("ll005;s0;b0;").due(0, "lamp", 0, 3));
    t("broken twice", x -> x.town("ll005;b0;b0;").due(0, "lamp", 0, 3).due(0, "lamp", 0, 4));
    t("the other LAMPS keep what they have", x -> x
        .town("ll005;ll005;p00;g003;b0;").due(3, "lamp", 1, 4).due(2, "count", 6));
  }

  // ---- steps, light, scenes ----

  private static void steps() {
    t("'STEPS': to where it begins, none", x -> x.due(0, "steps", 0, 0).due(0, "steps", 35, 35));
    t("'that are no WALLS': the one that it ends on", x -> x.walls(1).due(-9, "steps", 0, 1));
    t("'(the one begun on, too)'", x -> x.walls(1).due(-9, "steps", 1, 0));
    t("'(the one begun on, too)', where it ends there, too", x -> x.walls(1).due(-9, "steps", 1, 1));
    t("'that are no WALLS': nothing leads between", x -> x
        .walls(1, 6).due(-9, "steps", 0, 7).due(-9, "steps", 7, 0).due(0, "steps", 0, 0));
    t("'fewest': the longest way that there can be, 23", x -> x
        .walls(6, 7, 8, 9, 10, 15, 19, 23, 26, 27, 28, 30).due(23, "steps", 0, 29).due(23, "steps", 29, 0));
    t("'fewest': a WALL less, and it is shorter", x -> x
        .walls(6, 7, 8, 9, 10, 15, 19, 23, 26, 27, 28, 30).due(0, "wall", 23).due(9, "steps", 0, 29));
  }

  private static void lights() {
    t("'RANGE or fewer'", x -> x
        .town("ll003;").due(1, "lights", 0, 3).due(0, "lights", 0, 4).due(1, "lights", 0, 18).due(0, "lights", 0, 24)
        .due(10, "lamp", 0, 5));
    t("'STEPS from its own': around a WALL they are more", x -> x
        .town("ll003;w01;").due(0, "lights", 0, 2).due(1, "lights", 0, 8).due(7, "lamp", 0, 5));
    t("'a LAMP may hang on a WALL: then it lights that alone'", x -> x
        .town("ll145;w14;").due(1, "lamp", 0, 5).due(1, "lights", 0, 14).due(0, "lights", 0, 13).due(1, "count", 5));
    t("'a LAMP may hang on a WALL': it comes there", x -> x.town("w14;ll140;").due(1, "lamp", 0, 5));
    t("'then it lights that alone': no WALL any more, no more alone", x -> x
        .town("ll145;w14;w14;").due(35, "lamp", 0, 5));
    t("'then it lights that alone': another WALL is not lit", x -> x
        .town("ll145;w15;").due(0, "lights", 0, 15).due(34, "lamp", 0, 5));
  }

  private static void goes() {
    t("'He who GOES' to where he is: no STEP, no MINUTE, no SCENE", x -> x
        .town("ll145;p14;").due(0, "go", 0, 14).due(0, "count", 3).due(0, "count", 4));
    t("'of several the least': down and right", x -> x.town("ll145;p07;").due(4, "go", 0, 21)
        .shows(0, 3, 0, 8, 1).shows(0, 2, 0, 9, 2).shows(0, 1, 0, 15, 3).shows(0, 0, 0, 21, 4));
    t("'of several the least': up and left", x -> x.town("ll145;p21;").due(4, "go", 0, 7)
        .shows(0, 3, 0, 15, 1).shows(0, 2, 0, 9, 2).shows(0, 1, 0, 8, 3).shows(0, 0, 0, 7, 4));
    t("'of several the least': down and left", x -> x.town("ll145;p09;").due(4, "go", 0, 19)
        .shows(0, 3, 0, 8, 1).shows(0, 2, 0, 7, 2).shows(0, 1, 0, 13, 3).shows(0, 0, 0, 19, 4));
    t("'of several the least': up and right", x -> x.town("ll145;p19;").due(4, "go", 0, 9)
        .shows(0, 3, 0, 13, 1).shows(0, 2, 0, 7, 2).shows(0, 1, 0, 8, 3).shows(0, 0, 0, 9, 4));
    t("'with one STEP less left', not the least beside", x -> x.town("ll145;p14;w15;").due(4, "go", 0, 16)
        .shows(0, 3, 0, 8, 1).shows(0, 2, 0, 9, 2).shows(0, 1, 0, 10, 3).shows(0, 0, 0, 16, 4));
    t("'at each MINUTE is 1 more'", x -> x
        .town("p00;p35;").due(1, "go", 0, 1).due(1, "count", 3).due(10, "go", 1, 0).due(11, "count", 3));
    t("'LAMPS that are LIT'", x -> x
        .town("ll145;ll145;s0;p14;").due(1, "go", 0, 15).due(0, "lamp", 0, 4).due(1, "lamp", 1, 4));
    t("'and LIGHT the CELL': from the edge of its light in and out", x -> x.town("ll021;p00;").due(5, "go", 0, 5)
        .due(3, "lamp", 0, 4).shows(0, 2, 0, 1, 1).shows(0, 0, 0, 3, 3));
    t("'keep a SCENE': who is 3 of 4", x -> x.town("ll145;p14;p14;p14;p14;g315;").shows(0, 0, 3, 15, 1));
  }

  /** Somebody goes to and fro between 0 and 1, n times, lit by a lamp of that kind. */
  private static Told toAndFro(Told x, char kind, int n) {
    x.town("l" + kind + "005;p00;");
    for (int i = 1; i <= n; i++) {
      x.due(1, "go", 0, i % 2);
    }
    return x;
  }

  private static void keeps() {
    t("'l LAMP: keeps 9 SCENES': 9", x ->
        toAndFro(x, 'l', 9).due(9, "lamp", 0, 4).due(1, "shown", 0, 8, 2).due(9, "shown", 0, 0, 2));
    t("'the oldest fall out': the 10th", x ->
        toAndFro(x, 'l', 10).due(9, "lamp", 0, 4).due(2, "shown", 0, 8, 2).due(10, "shown", 0, 0, 2));
    t("'shows the latest first'", x -> {
      toAndFro(x, 'l', 12);
      for (int i = 0; i < 9; i++) {
        x.shows(0, i, 0, i % 2, 12 - i);
      }
    });
    t("a way longer than what is kept", x -> x
        .town("ll145;p00;").due(9, "go", 0, 34).due(9, "lamp", 0, 4).due(1, "go", 0, 28).shows(0, 8, 0, 2, 2));
  }

  private static void kinds() {
    t("'d DIM: keeps no who (9)'", x -> toAndFro(x, 'd', 1).shows(0, 0, 9, 1, 1));
    t("'d DIM under LAMP': keeps 9", x ->
        toAndFro(x, 'd', 10).due(9, "lamp", 0, 4).shows(0, 8, 9, 0, 2).shows(0, 0, 9, 0, 10));
    t("'m MOON: keeps none'", x ->
        toAndFro(x, 'm', 10).due(0, "lamp", 0, 4).due(0, "count", 4).due(-1, "shown", 0, 0, 0));
    t("'k CANDLE: keeps 3': 3", x -> toAndFro(x, 'k', 3).due(3, "lamp", 0, 4).due(1, "shown", 0, 2, 2));
    t("'k CANDLE: keeps 3': the 4th", x ->
        toAndFro(x, 'k', 4).due(3, "lamp", 0, 4).due(2, "shown", 0, 2, 2).due(4, "shown", 0, 0, 2));
    t("'k CANDLE under DIM'", x -> toAndFro(x, 'k', 3).shows(0, 0, 9, 1, 3).due(0, "seen", 0));
    t("'c CARRIED under LAMP': keeps 9 with who", x ->
        toAndFro(x, 'c', 10).due(9, "lamp", 0, 4).shows(0, 8, 0, 0, 2).shows(0, 0, 0, 0, 10));
  }

  private static void overlaid() {
    t("'a SCENE of a CELL of which it has one takes out that one first'", x -> toAndFro(x, 'o', 3)
        .due(2, "lamp", 0, 4).shows(0, 0, 0, 1, 3).shows(0, 1, 0, 0, 2));
    t("'takes out that one first': the latest, too", x -> x
        .town("lo000;p01;").due(1, "go", 0, 0).due(1, "go", 0, 1).due(1, "go", 0, 0)
        .due(1, "lamp", 0, 4).shows(0, 0, 0, 0, 3));
    t("'takes out that one first': that of another, too", x -> x
        .town("lo000;p01;p01;").due(1, "go", 0, 0).due(1, "go", 1, 0)
        .due(1, "lamp", 0, 4).shows(0, 0, 1, 0, 2).due(2, "seen", 0));
    for (char kind : new char[] {'o', 'f'}) {
      t("'takes out that one first': of 9 no other falls out, " + kind, x -> {
        full(x, kind).due(1, "go", 0, 9).due(9, "lamp", 0, 4);
        x.shows(0, kind == 'f' ? 8 : 0, 0, 9, 10).shows(0, kind == 'f' ? 0 : 8, 0, 1, 1)
            .shows(0, kind == 'f' ? 7 : 1, 0, 8, 9);
      });
      t("'keeps 9 SCENES, the oldest fall out': a 10th CELL, " + kind, x -> {
        full(x, kind).due(1, "go", 0, 14).due(9, "lamp", 0, 4);
        x.shows(0, kind == 'f' ? 8 : 0, 0, 14, 10).shows(0, kind == 'f' ? 0 : 8, 0, 2, 2);
      });
    }
    t("'f FLICKERING: shows the oldest first'", x -> x
        .town("lf005;p00;g003;").shows(0, 0, 0, 1, 1).shows(0, 1, 0, 2, 2).shows(0, 2, 0, 3, 3));
    t("'f FLICKERING under OVERLAID'", x ->
        toAndFro(x, 'f', 3).due(2, "lamp", 0, 4).shows(0, 0, 0, 0, 2).shows(0, 1, 0, 1, 3));
    t("'the oldest' of an OVERLAID one is the one longest not lit anew", x -> x.town("lo005;p00;g003;g002;")
        .due(3, "lamp", 0, 4).shows(0, 2, 0, 1, 1).shows(0, 1, 0, 3, 3).shows(0, 0, 0, 2, 4));
  }

  /** Nine scenes of as many cells, from the oldest: 1, 2, 3, 4, 5, 11, 10, 9, 8. */
  private static Told full(Told x, char kind) {
    return x.town("l" + kind + "145;p00;g005;g011;g008;").due(9, "lamp", 0, 4).due(9, "count", 3);
  }

  private static void carried() {
    int[] cells = {0, 1, 2, 3, 4, 5, 7, 8, 31, 32, 35};
    int[] persons = {0, 1, 2, 3, 0, 1, 3, 0, 3, 0, 3};
    for (int i = 0; i < cells.length; i++) {
      int cell = cells[i];
      int person = persons[i];
      t("'the PERSON whose number is its CELL modulo 4': " + cell, x -> x
          .town("lc" + twoDigits(cell) + "0;p20;p21;p22;p23;").due(20 + person, "lamp", 0, 1)
          .due(1, "lights", 0, 20 + person));
    }
    for (int cell = 32; cell <= 35; cell++) {
      int own = cell;
      t("'if he is there, else its own': nobody is, " + own, x -> x.town("lc" + own + "0;").due(own, "lamp", 0, 1));
      t("'if he is there, else its own': he was, but not then, " + own, x -> {
        x.town("lc" + own + "0;");
        for (int person = 0; person < own % 4; person++) {
          x.due(person, "person", 7);
        }
        x.due(0, "image").due(own % 4, "person", 14).due(14, "lamp", 0, 1).due(0, "on").due(own, "lamp", 0, 1);
      });
    }
    t("'its CELL is that of the PERSON': the least CELL, too", x -> x
        .town("lc010;p35;p00;").due(0, "lamp", 0, 1).due(1, "lights", 0, 0).due(0, "lights", 0, 1));
    t("'its CELL is that of the PERSON': its own may be a WALL", x -> x
        .town("lc041;p14;w04;").due(14, "lamp", 0, 1).due(5, "lamp", 0, 5));
    t("'else its own': a WALL, and it lights that alone", x -> x
        .town("lc051;p14;w05;").due(5, "lamp", 0, 1).due(1, "lamp", 0, 5));
    t("'if he is there, else its own': the one ahead is", x -> x
        .town("lc350;p00;p01;p02;").due(35, "lamp", 0, 1).due(3, "person", 3).due(3, "lamp", 0, 1));
    t("'its CELL is that of the PERSON': it lights each CELL that he goes to", x -> x
        .town("lc000;p14;").due(6, "go", 0, 35)
        .due(6, "lamp", 0, 4).shows(0, 0, 0, 35, 6).due(35, "lamp", 0, 1));
    t("'its CELL is that of the PERSON': not that which he leaves", x -> x
        .town("lc000;p14;p15;").due(1, "go", 0, 13).due(1, "go", 1, 14).due(1, "lamp", 0, 4));
  }

  // ---- II. ----

  private static void shownAndSeen() {
    t("'the i-th SCENE a LAMP shows': the first and the last of 9", x ->
        toAndFro(x, 'l', 9).due(9, "shown", 0, 0, 2).due(1, "shown", 0, 8, 2).due(-1, "shown", 0, 9, 2));
    t("'who (bits) is in any SCENE': none of none", x -> x.town("ll000;").due(0, "seen", 0));
    t("'who (bits) is in any SCENE': all four", x -> x
        .town("ll005;p00;p00;p00;p00;g001;g101;g201;g301;").due(15, "seen", 0));
    t("'who (bits) is in any SCENE': fallen out is not in any", x -> {
      x.town("ll005;p00;p00;g101;");
      for (int i = 1; i <= 8; i++) {
        x.due(1, "go", 0, i % 2);
      }
      x.due(3, "seen", 0).due(1, "go", 0, 1).due(1, "seen", 0);
    });
    t("'LAMPS (bits) that have a SCENE of one': six", x -> x
        .town("ll005;ll005;lc005;lo005;lf005;ll005;p00;g001;").due(63, "by", 0, 1));
    t("'(his who)': no DIM one, no CANDLE, no MOON", x -> x.town("ld005;lk005;lm005;p00;g001;").due(0, "by", 0, 1));
    t("'at a told MINUTE': one ahead, one behind", x -> x
        .town("ll005;p00;g003;").due(0, "by", 0, 0).due(1, "by", 0, 1).due(1, "by", 0, 3).due(0, "by", 0, 4));
    t("'at a told MINUTE': fallen out", x ->
        toAndFro(x, 'l', 10).due(0, "by", 0, 1).due(1, "by", 0, 2).due(1, "by", 0, 10));
  }

  private static void unlit() {
    t("'UNLIT (both ends, too)': the one begun on is LIT", x -> x
        .town("ll000;").due(-9, "unlit", 0, 35, 0).due(10, "unlit", 0, 35, 1));
    t("'UNLIT (both ends, too)': the other", x -> x
        .town("ll350;").due(-9, "unlit", 0, 35, 0).due(10, "unlit", 0, 35, 1));
    t("'UNLIT (both ends, too)': both are one", x -> x
        .town("ll140;").due(-9, "unlit", 14, 14, 0).due(0, "unlit", 14, 14, 1).due(0, "unlit", 13, 13, 0));
    t("'that no LIT LAMP LIGHTS'", x -> x
        .town("ll010;ll060;").due(-9, "unlit", 0, 35, 0).due(1, "light", 0, 0).due(10, "unlit", 0, 35, 0));
    t("'but told ones (bits)': each bit tells its LAMP", x -> {
      x.town("ll000;ll010;ll020;ll030;ll040;ll050;");
      for (int i = 0; i < 6; i++) {
        for (int told = 0; told < 6; told++) {
          x.due(i == told ? 0 : -9, "unlit", i, i, 1 << told);
        }
      }
      x.due(5, "unlit", 0, 5, 63).due(-9, "unlit", 0, 5, 62).due(-9, "unlit", 0, 5, 31);
    });
    t("'but told ones': what another LIGHTS, too, stays LIT", x -> x
        .town("ll001;ll000;").due(-9, "unlit", 0, 1, 1).due(0, "unlit", 1, 1, 1));
    t("'UNLIT': WALLS stand in the way", x -> x
        .walls(1, 6).due(-9, "unlit", 0, 35, 63).due(-9, "unlit", 1, 1, 63).due(0, "unlit", 0, 0, 0));
    t("'that no LIT LAMP LIGHTS': MOONS are LAMPS", x -> x.town("lm000;").due(-9, "unlit", 0, 35, 0));
    t("'that no LIT LAMP LIGHTS': CARRIED ones where they are now", x -> x
        .town("lc000;p14;").due(-9, "unlit", 14, 15, 0).due(10, "unlit", 0, 35, 0).due(1, "go", 0, 13)
        .due(1, "unlit", 14, 15, 0).due(-9, "unlit", 13, 13, 0));
    t("'STEPS by CELLS that no LIT LAMP LIGHTS': around the light", x -> x
        .town("ll071;").due(10, "unlit", 0, 35, 1).due(-9, "unlit", 0, 35, 0).due(7, "unlit", 2, 25, 0));
  }

  private static void toForget() {
    t("'(In thought MINUTE may pass 9999)': to forget the SCENE of 9999", x -> {
      to9998Lit(x).due(1, "go", 0, 25).due(9999, "count", 3);
      x.due(9, "forget", 0, 9999).due(1, "lamp", 0, 4);
    });
    t("'how many SCENES more a LAMP must keep': the only one of 9", x -> toAndFro(x, 'l', 1).due(9, "forget", 0, 1));
    t("'how many SCENES more': the oldest and the latest of 9", x ->
        toAndFro(x, 'l', 9).due(1, "forget", 0, 1).due(9, "forget", 0, 9));
    t("'how many SCENES more': the oldest and the latest of 8", x ->
        toAndFro(x, 'l', 8).due(2, "forget", 0, 1).due(9, "forget", 0, 8));
    t("'(as a LAMP of its KIND keeps them)': a CANDLE's only one", x -> toAndFro(x, 'k', 1).due(3, "forget", 0, 1));
    t("'(as a LAMP of its KIND keeps them)': a CANDLE's 3", x ->
        toAndFro(x, 'k', 3).due(1, "forget", 0, 1).due(2, "forget", 0, 2).due(3, "forget", 0, 3));
    t("'(as a LAMP of its KIND keeps them)': a DIM one's 9", x ->
        toAndFro(x, 'd', 9).due(1, "forget", 0, 1).due(9, "forget", 0, 9));
    t("'each on a new CELL': of an OVERLAID one nothing is taken out", x ->
        toAndFro(x, 'o', 3).due(8, "forget", 0, 2).due(9, "forget", 0, 3));
    t("'each on a new CELL': of a FLICKERING one neither", x ->
        toAndFro(x, 'f', 3).due(8, "forget", 0, 2).due(9, "forget", 0, 3));
    t("'each on a new CELL': an OVERLAID one of 9", x -> full(x, 'o').due(1, "forget", 0, 1).due(9, "forget", 0, 9));
    t("'-9 it has none': a MOON", x -> toAndFro(x, 'm', 1).due(-9, "forget", 0, 1));
    t("'-9 it has none': fallen out", x -> toAndFro(x, 'l', 10).due(-9, "forget", 0, 1).due(1, "forget", 0, 2));
    t("'-9 it has none': taken out", x -> toAndFro(x, 'o', 3).due(-9, "forget", 0, 1));
    t("'-9 it has none': broken", x -> toAndFro(x, 'l', 3).town("b0;").due(-9, "forget", 0, 3));
    t("'a LAMP must keep', LIT or not", x -> toAndFro(x, 'l', 3).due(1, "light", 0, 0).due(7, "forget", 0, 1));
  }

  /** As to9999, but a minute ahead and with a lamp of kind l on 25, where he comes at the last minute alone. */
  private static Told to9998Lit(Told x) {
    x.town("ll250;").walls(6, 7, 8, 9, 10, 15, 19, 23, 26, 27, 28, 30).due(0, "person", 0);
    for (int i = 0; i < 434; i++) {
      x.due(23, "go", 0, i % 2 == 0 ? 29 : 0);
    }
    return x.due(16, "go", 0, 24).town("b0;s0;").due(0, "count", 4);
  }

  private static void coldNight() {
    t("'to the PEOPLE on CELLS that it LIGHTS': all four", x -> x
        .town("ll141;p14;p08;p13;p15;g020;").due(15, "knows", 0, 20, 1));
    t("'to the PEOPLE on CELLS that it LIGHTS': RANGE and one more", x -> x
        .town("ll021;p02;p03;p04;g008;g002;").due(3, "knows", 0, 8, 1).due(0, "known", 2).due(2, "known", 1));
    t("'(LIT or not)'", x -> x
        .town("ll021;p02;g003;s0;").due(1, "knows", 0, 3, 1).due(1, "known", 0).due(1, "allKnow"));
    t("'by a SCENE with his who': no DIM one", x -> x
        .town("ld021;p02;g003;").due(0, "knows", 0, 3, 1).due(1, "known", 0).due(1, "allKnow"));
    t("'each LAMP by numbers shows' where it is now: a CARRIED one to its bearer alone", x -> x
        .town("lc000;p00;p35;g003;").due(1, "knows", 0, 1, 1).due(3, "known", 0).due(0, "known", 1));
    t("'a LAMP may hang on a WALL': it shows to nobody", x -> x
        .town("ll021;p02;g003;w02;").due(0, "knows", 0, 3, 1).due(0, "known", 0).due(0, "allKnow"));
    t("'how many unlike SCENES': like ones of two LAMPS are one", x -> x
        .town("ll021;ll021;lo021;p02;g003;").due(1, "known", 0).due(1, "allKnow"));
    t("'unlike (who, CELL, MINUTE)': with who and without", x -> x
        .town("ll021;ld021;p02;g003;").due(2, "known", 0).due(2, "allKnow"));
    t("'unlike (who, CELL, MINUTE)': like ones without who", x -> x
        .town("ld021;lk021;p02;g003;").due(1, "known", 0).due(1, "allKnow"));
    t("'unlike (who, CELL, MINUTE)': another MINUTE alone", x -> x
        .town("ll021;p02;g003;g002;g003;").due(3, "known", 0));
    t("'how many ..' of the most that six LAMPS keep apart", x -> {
      x.town("ll005;ld005;p00;");
      for (int i = 1; i <= 9; i++) {
        x.due(1, "go", 0, i % 2);
      }
      x.due(18, "known", 0).due(18, "allKnow");
    });
    t("'ones somebody learns': none, where nobody is", x -> x
        .town("ll021;p02;g003;g035;").due(0, "known", 0).due(0, "allKnow"));
    t("'ones somebody learns': each once, though two learn it", x -> x
        .town("ll021;p02;p02;g003;").due(1, "known", 0).due(1, "known", 1).due(1, "allKnow"));
    t("'ones somebody learns': of one and of another", x -> x
        .town("ll001;ll350;p00;p34;g001;g000;g135;").due(2, "known", 0).due(1, "known", 1).due(3, "allKnow"));
    t("'ALL KNOW': nobody is there", x -> x.town("ll001;").due(0, "allKnow"));
  }

  private static void where() {
    t("'WHERE': nothing has been kept", x -> x
        .town("p00;").due(36, "whereAt", 0, 0, -1).due(0, "whereAt", 0, 0, 0).due(35, "whereAt", 0, 9999, 35));
    t("'CELLS that are no WALLS'", x -> x
        .town("p00;w01;w35;").due(34, "whereAt", 0, 0, -1).due(2, "whereAt", 0, 0, 1).due(34, "whereAt", 0, 0, 33)
        .due(-9, "whereAt", 0, 0, 34));
    t("'if t is one of a SCENE of his, just there'", x -> x
        .town("lo140;p13;g014;").due(1, "whereAt", 0, 1, -1).due(14, "whereAt", 0, 1, 0).due(-9, "whereAt", 0, 1, 1));
    t("'no more than the MINUTES between': one ahead", x -> x
        .town("lo140;p13;g014;").due(5, "whereAt", 0, 0, -1).due(8, "whereAt", 0, 0, 0).due(20, "whereAt", 0, 0, 4));
    t("'no more than the MINUTES between': one and two behind", x -> x
        .town("lo140;p13;g014;").due(5, "whereAt", 0, 2, -1).due(13, "whereAt", 0, 3, -1));
    t("'no more than the MINUTES between': 5 and 6, for 35", x -> x
        .town("lo140;p13;g014;").due(35, "whereAt", 0, 6, -1).due(36, "whereAt", 0, 7, -1)
        .due(36, "whereAt", 0, 9999, -1));
    t("'all SCENES with his who': between two of them", x -> x
        .town("lo130;lo150;p12;g016;").due(1, "whereAt", 0, 2, -1).due(14, "whereAt", 0, 2, 0));
    t("'with his who': another's are none", x -> x
        .town("lo140;p13;p13;g114;").due(36, "whereAt", 0, 1, -1).due(1, "whereAt", 1, 1, -1));
    t("'with his who': a DIM one's are none", x -> x.town("ld140;lk140;p13;g014;").due(36, "whereAt", 0, 1, -1));
    t("'STEPS from the CELL of each to it': a WALL parts them", x -> x
        .town("lo000;p01;g000;g007;w01;w06;").due(1, "whereAt", 0, 9999, -1).due(0, "whereAt", 0, 9999, 0));
    t("'STEPS from the CELL of each': it is a WALL now", x -> x
        .town("lo000;p01;g000;g001;w00;").due(0, "whereAt", 0, 1, -1).due(0, "whereAt", 0, 9999, -1)
        .due(-9, "whereAt", 0, 9999, 0));
    t("'all SCENES': none more, if it is broken", x -> x.town("lo000;p01;g000;b0;").due(36, "whereAt", 0, 1, -1));
    t("'all SCENES': of LAMPS that are not LIT, too", x -> x.town("lo140;p13;g014;s0;").due(1, "whereAt", 0, 1, -1));
    for (char kind : "lcof".toCharArray()) {
      t("'all SCENES with his who': of KIND " + kind, x -> x
          .town("l" + kind + "145;p13;g014;s0;").due(1, "whereAt", 0, 1, -1).due(14, "whereAt", 0, 1, 0)
          .due(5, "whereAt", 0, 2, -1));
    }
  }

  private static void whereByLamps() {
    t("'no LIT LAMP of KIND l LIGHTS it'", x -> x
        .town("ll141;p00;").due(31, "whereAt", 0, 0, -1).due(31, "whereAt", 0, 9999, -1));
    t("'no LIT LAMP': not LIT", x -> x.town("ll141;s0;p00;").due(36, "whereAt", 0, 0, -1));
    for (char kind : "dmckof".toCharArray()) {
      t("'of KIND l': not of KIND " + kind, x -> x.town("l" + kind + "141;p00;").due(36, "whereAt", 0, 0, -1));
    }
    t("'fewer than 9 SCENES': 8", x -> toAndFro(x, 'l', 8).due(1, "person", 35).due(36 - 21, "whereAt", 1, 4, -1));
    t("'fewer than 9 SCENES': 9", x -> toAndFro(x, 'l', 9).due(1, "person", 35).due(36, "whereAt", 1, 4, -1));
    t("'and none of his at t': it has one", x -> x
        .town("ll141;p13;g014;").due(1, "whereAt", 0, 1, -1).due(14, "whereAt", 0, 1, 0));
    t("'and none of his at t': it has one of another", x -> x.town("ll141;p13;p35;g014;").due(31, "whereAt", 1, 1, -1));
    t("'and none of his at t': it has one a MINUTE ahead and behind", x -> x
        .town("ll140;p13;g014;").due(4, "whereAt", 0, 0, -1).due(4, "whereAt", 0, 2, -1));
    t("'and none of his at t': another LAMP has it", x -> x
        .town("ll141;lo141;p13;").due(1, "light", 0, 0).due(1, "go", 0, 14).due(0, "light", 0, 1)
        .due(0, "whereAt", 0, 1, -1));
    t("'LIGHTS it': all CELLS but 35", x -> x
        .town("ll145;p00;").due(1, "whereAt", 0, 0, -1).due(35, "whereAt", 0, 0, 0));
  }

  private static void next() {
    t("'-9 no LAMP'", x -> x.town("p00;").due(-9, "next", 0, 0));
    t("'-9 no such CELL'", x -> x.town("lo140;p13;g014;g013;w14;").due(-9, "next", 0, 1));
    // 13 and 23, 20 and 16, 17 and 19, 19 and 17.
    t("'parts these CELLS most alike'", x -> x.town("lm142;lm083;lm073;lm014;p00;").due(2, "next", 0, 0));
    t("'the lesser of how many it LIGHTS and does not': too much light is no better", x -> x
        .town("lm145;lm001;p00;").due(1, "next", 0, 0));
    t("'of several the least'", x -> x.town("lm000;lm142;lm142;p00;").due(1, "next", 0, 0));
    t("'of several the least': as much dark as light", x -> x.town("lm145;lm140;p00;").due(0, "next", 0, 0));
    t("'of several the least': none parts them", x -> x.town("lm000;lo350;p34;g035;").due(0, "next", 0, 1));
    t("'(LIT or not)'", x -> x.town("lm000;lm142;s1;p00;").due(1, "next", 0, 0));
    t("'these CELLS', not all", x -> x.town("lm141;lm350;lo340;p33;g034;").due(1, "next", 0, 2));
  }

  private static void fewest() {
    t("'the fewest of the LAMPS': an empty ROW needs none", x -> x.town("ll000;").due(0, "fewest"));
    t("'-9': no LAMPS", x -> x.row(0).due(-9, "fewest"));
    t("'-9': one CELL that none LIGHTS", x -> x.town("ll005;").row(0, 1, 35).due(-9, "fewest"));
    t("'that LIGHT all of them': all six", x -> x
        .town("ll000;ll010;ll020;ll030;ll040;ll050;").row(0, 1, 2, 3, 4, 5).due(63, "fewest"));
    t("'that LIGHT all of them': the last alone", x -> x
        .town("ll000;ll010;ll020;ll030;ll040;ll050;").row(5).due(32, "fewest"));
    t("'the fewest': one of more light, though its number is greater", x -> x
        .town("ll000;ll010;ll001;").row(0, 1).due(4, "fewest"));
    t("'the least set of the fewest': of single ones", x -> x.town("ll000;ll010;ll010;").row(1).due(2, "fewest"));
    t("'the least set of the fewest': of pairs", x -> x.town("ll010;ll000;ll010;ll000;").row(0, 1).due(3, "fewest"));
    t("'LIT or not'", x -> x.town("ll000;s0;").row(0).due(1, "fewest"));
    t("'the LAMPS that LIGHT all of them': MOONS and CARRIED ones, too", x -> x
        .town("lm000;lc010;p05;p06;").row(0, 6).due(3, "fewest"));
    t("'a ROW of CELLS': twelve, and one twice", x -> x
        .town("ll145;").row(0, 0, 1, 2, 3, 4, 5, 6, 7, 8, 9, 34).due(1, "fewest"));
    t("'a ROW of CELLS': a WALL none LIGHTS", x -> x.town("ll145;w15;").row(15).due(-9, "fewest"));
    t("'a ROW of CELLS': a WALL with a LAMP", x -> x.town("ll145;w15;ll150;").row(15).due(2, "fewest"));
  }

  private static void oneMore() {
    t("'how many CELLS it would LIGHT': RANGE 0, the least CELL", x -> x
        .due(1, "oneMore", 0, 0).due(0, "oneMore", 0, 1));
    t("'how many CELLS it would LIGHT': RANGE 1, none at the edge", x -> x
        .due(5, "oneMore", 1, 0).due(7, "oneMore", 1, 1));
    t("'how many CELLS it would LIGHT': RANGE 5", x -> x.due(35, "oneMore", 5, 0).due(14, "oneMore", 5, 1));
    t("'that no LIT LAMP does': all are LIT", x -> x
        .town("ll145;ll350;").due(0, "oneMore", 5, 0).due(0, "oneMore", 5, 1));
    t("'that no LIT LAMP does': one that is not LIT", x -> x
        .town("ll145;ll350;s1;").due(1, "oneMore", 0, 0).due(35, "oneMore", 0, 1));
    t("'of several the least'", x -> x.town("ll000;").due(1, "oneMore", 0, 0).due(1, "oneMore", 0, 1));
    t("'a LAMP may hang on a WALL': there the one more, too", x -> x
        .town("ll145;ll350;w20;").due(1, "oneMore", 5, 0).due(20, "oneMore", 5, 1));
    t("'no light goes through one'", x -> x.walls(1, 6).due(1, "oneMore", 0, 0).due(33, "oneMore", 5, 0));
  }

  private static void twoAndSwap() {
    t("'how many SCENES of the one the other has, too': none of none", x -> x.town("ll000;ll000;").due(0, "two", 0, 1));
    t("'the other has, too (CELL and MINUTE)': who is not looked at", x -> x
        .town("ll005;ld005;p00;g003;").due(3, "two", 0, 1).due(3, "two", 1, 0));
    t("'the other has, too (CELL and MINUTE)': 3 of 9", x -> x
        .town("ll145;lk145;p00;g034;").due(9, "two", 0, 0).due(3, "two", 0, 1).due(3, "two", 1, 0));
    t("'the other has, too (CELL and MINUTE)': the CELL alone is not enough", x -> x
        .town("ll005;ll005;p00;s1;g001;s0;s1;g000;g001;").due(1, "lamp", 0, 4).due(2, "lamp", 1, 4)
        .due(0, "two", 0, 1));
    t("'the other has, too (CELL and MINUTE)': the least CELL is not that of none", x -> x
        .town("ll000;ll350;p01;g000;").due(1, "lamp", 0, 4).due(0, "two", 0, 1).due(0, "two", 1, 0));
    t("'how many CELLS LIT LAMPS then LIGHT together, less now': below 0", x -> x
        .town("ll000;ll145;").due(-14, "swap", 0, 1));
    t("'less now': above 0", x -> x.town("ll140;ll005;").due(14, "swap", 0, 1));
    t("'less now (may be below 0)': -1, which is no REFUSAL", x -> x
        .town("ll351;ll000;w06;").due(-1, "swap", 0, 1).due(0, "count", 11));
    t("'then LIGHT together': what both LIGHT is one", x -> x.town("ll141;ll141;").due(0, "swap", 0, 1));
    t("'LIT LAMPS': neither is", x -> x.town("ll140;ll005;s0;s1;").due(0, "swap", 0, 1));
    t("'two LAMPS change their CELLS': one with itself", x -> x.town("ll140;").due(0, "swap", 0, 0));
    t("'change their CELLS': onto a WALL and from it", x -> x.town("ll141;ll000;w14;").due(2, "swap", 0, 1));
    t("'change their CELLS': of a CARRIED one its own, and another carries it then", x -> x
        .town("lc001;lm010;p00;p14;").due(3, "swap", 0, 1).due(3, "swap", 1, 0));
    t("'change their CELLS': of a CARRIED one its own, and nobody carries it then", x -> x
        .town("lc021;lm310;p00;p00;p14;").due(-1, "swap", 0, 1).due(0, "count", 11));
  }

  private static void judgedAndCaught() {
    t("'JUDGED -9': an empty ROW", x -> x.town("p00;").due(-9, "judge", 0));
    t("'(nor the same as)': he stays", x -> x.town("p00;").row(0, 0, 1, 1, 0).due(-9, "judge", 0));
    t("'the one ahead (his CELL at first)': the first is too far", x -> x.town("p00;").row(2, 3).due(0, "judge", 0));
    t("'the first that is not beside': the last of twelve", x -> x
        .town("p00;").row(0, 1, 2, 3, 4, 5, 11, 10, 9, 8, 7, 5).due(11, "judge", 0));
    t("'JUDGED -9': a way of twelve", x -> x
        .town("p00;").row(0, 1, 2, 3, 4, 5, 11, 10, 9, 8, 7, 6).due(-9, "judge", 0));
    t("'the first that is a WALL'", x -> x.town("p00;w01;").row(0, 1).due(1, "judge", 0));
    t("'not beside': around the edge of the square", x -> x
        .town("p05;p06;p30;").row(6).due(0, "judge", 0).due(-9, "judge", 1).due(0, "judge", 2));
    t("'as CELLS': 36 is none, though beside 35 and below 30", x -> x
        .town("p35;p30;").row(36).due(0, "judge", 0).due(0, "judge", 1));
    t("'as CELLS': 99 is none, and none is beside it", x -> x.town("p00;").row(0, 99, 99).due(1, "judge", 0));
    t("'CAUGHT -9': an empty ROW", x -> x.town("ll145;p00;").due(-9, "caught", 0));
    t("'CAUGHT -9': none is LIT", x -> x.town("ll000;p00;").row(1, 2, 3).due(-9, "caught", 0));
    t("'the first of these LIT': the first", x -> x.town("ll000;p00;").row(0, 1, 0).due(0, "caught", 0));
    t("'the first of these LIT': the last of twelve", x -> x
        .town("ll000;p00;").row(1, 1, 1, 1, 1, 1, 1, 1, 1, 1, 1, 0).due(11, "caught", 0));
    t("'by some LIT LAMP': one that is not LIT does not", x -> x
        .town("ll000;ll010;s0;p00;").row(0, 1).due(1, "caught", 0));
    t("'by some LIT LAMP': at RANGE and one more", x -> x.town("ll002;p00;").row(3, 2).due(1, "caught", 0));
    t("'by some LIT LAMP': by a MOON, too", x -> x.town("lm000;p00;").row(1, 0).due(1, "caught", 0));
    t("'by some LIT LAMP': by a CARRIED one where it is now", x -> x
        .town("lc000;p14;").row(0, 15, 14).due(2, "caught", 0));
    t("'(In thought MINUTE may pass 9999)': JUDGED and CAUGHT at 9999", x ->
        to9999(x).row(24, 18, 12).due(-9, "judge", 0).due(-9, "caught", 0).due(9999, "count", 3));
    t("'the first of these': what is no CELL is not LIT", x -> x
        .town("ll005;p00;").row(99, 36, 64, 35).due(-9, "caught", 0));
  }

  private static void lots() {
    t("'each of 12 MINUTES': he can not go", x -> x
        .town("ll070;p07;").walls(1, 6, 8, 13).due(12, "lots", 0, 1, 0).due(240, "lots", 0, 20, 0));
    t("'he stays, if he can not go': in a corner", x -> x.town("ll000;p00;").walls(1, 6).due(24, "lots", 0, 2, 5));
    t("'he stays, if he can not go': in the last corner", x -> x
        .town("ll350;p35;").walls(29, 34).due(24, "lots", 0, 2, 5));
    t("'for how many LIT LAMPS': six", x -> x
        .town("ll070;ld070;lk070;lc000;lo070;lf070;p07;").walls(1, 6, 8, 13).due(72, "lots", 0, 1, 0));
    t("'(but MOONS)'", x -> x.town("lm070;ll070;p07;").walls(1, 6, 8, 13).due(12, "lots", 0, 1, 0));
    t("'LIT LAMPS': one that is not", x -> x.town("ll070;s0;p07;").walls(1, 6, 8, 13).due(0, "lots", 0, 1, 0));
    t("'LOTS': no LAMPS", x -> x.town("p07;").due(0, "lots", 0, 20, 0));
    t("'(In thought MINUTE may pass 9999)': LOTS at 9999", x -> {
      x.town("ll250;");
      to9999(x).walls(24, 31).due(12, "lots", 0, 1, 0).due(240, "lots", 0, 20, 0).due(9999, "count", 3).due(25, "where", 0);
    });
    int[] seeds = {0, 1, -1, LEAST, LEAST + 1, GREATEST, GREATEST - 1, 1 << 30, 123456789, -1013904223};
    for (int z : seeds) {
      for (int n : new int[] {1, 2, 19, 20}) {
        t("'A DRAW below m', seed " + z + ", " + n + " walks", x -> {
          x.town("ll000;ll071;lo141;lm145;p14;w08;");
          x.due(walked(n, z), "lots", 0, n, z);
        });
        t("'they stay where they are now': CARRIED ones, seed " + z + ", " + n + " walks", x -> {
          x.town("lc000;lc011;p35;p28;");
          x.due(within(n, z, 35, 0) + within(n, z, 28, 1), "lots", 0, n, z);
        });
      }
    }
  }

  /** Minutes on 0, within 1 of 7 and within 1 of 14, of n walks from 14 beside the wall 8. */
  private static int walked(int n, int z) {
    int total = 0;
    for (int cell : new int[] {0, 7, 7 - 6, 7 - 1, 7 + 6, 14, 14 - 1, 14 + 1, 14 + 6}) {
      total += minutes(n, z, 14, 8, cell);
    }
    return total;
  }

  /** Minutes within a range of a lamp, of n walks from 35. */
  private static int within(int n, int z, int lamp, int range) {
    int total = 0;
    for (int cell = 0; cell < 36; cell++) {
      total += apart(lamp, cell) <= range ? minutes(n, z, 35, -1, cell) : 0;
    }
    return total;
  }

  /** The DRAWS in longs, so that the int's wrap-around is looked at, too. */
  private static int minutes(int n, int z, int from, int wall, int on) {
    long seed = z & 0xffffffffL;
    int minutes = 0;
    for (int walk = 0; walk < n; walk++) {
      int cell = from;
      for (int minute = 0; minute < 12; minute++) {
        seed = (seed * 1664525 + 1013904223) % 4294967296L;
        int side = (int) (seed % 2147483648L / 256 % 4);
        int to = cell + new int[] {-6, -1, 1, 6}[side];
        boolean in = to >= 0 && to < 36 && apart(cell, to) == 1;
        cell = in && to != wall ? to : cell;
        minutes += cell == on ? 1 : 0;
      }
    }
    return minutes;
  }

  // ---- the image and the refusals ----

  private static void image() {
    String rich = "ll145;lo145;p00;p35;w30;g003;";
    String more = "lm000;p07;w30;w31;g004;s0;b1;";
    TWINS.unchanged("Terms, 'ON from it all is as then'", x -> x
        .town(rich).due(3, "image"), x -> x.town(more).due(3, "on"));
    TWINS.unchanged("Terms, 'ON from it all is as then', twice", x -> x
        .town(rich).due(3, "image"), x -> x.town("g104;").due(3, "on").town(more).due(3, "on"));
    TWINS.unchanged("Terms, 'THE IMAGE' taken and nothing behind it", x -> x
        .town(rich).due(3, "image"), x -> x.due(3, "on"));
    t("'but the ROW': it stays as it is", x -> x.row(1, 2).due(0, "image").row(3).due(0, "on").due(3, "count", 7));
    t("'but the ROW': none stays none", x -> x
        .town("p00;").row(1, 2).due(0, "image").due(-9, "caught", 0).due(0, "on").due(0, "count", 7));
    t("'but letters'", x -> x
        .letters("w0").due(0, "image").letters("0;").due(0, "on").due(4, "count", 8).due(1, "town"));
    t("'but REFUSALS'", x -> x
        .due(-3, "on").due(0, "image").due(-1, "wall", 36).due(0, "on").due(1, "count", 11).due(1, "count", 13));
    t("'but it': ON again, and it is the same", x -> x
        .town("p00;").due(0, "image").due(1, "person", 1).due(0, "on").due(1, "count", 1).due(1, "person", 2)
        .due(0, "on").due(1, "count", 1));
    t("'THE IMAGE': another takes its place", x -> x
        .town("p00;").due(0, "image").due(1, "person", 1).due(0, "image").due(2, "person", 2).due(0, "on")
        .due(2, "count", 1));
    t("'THE IMAGE': of an empty TOWN", x -> {
      x.due(0, "image").town(rich).due(0, "on");
      for (int what = 0; what <= 6; what++) {
        x.due(0, "count", what);
      }
      x.due(0, "steps", 30, 30).due(-1, "lamp", 0, 0).due(-1, "where", 0);
    });
    t("'THE IMAGE': what is kept behind it is not in it", x -> x
        .town(rich).due(3, "image").due(1, "go", 0, 4).due(3, "on").due(3, "lamp", 0, 4).shows(0, 0, 0, 3, 3)
        .due(2, "go", 0, 5).shows(0, 0, 0, 5, 5).due(3, "on").shows(0, 0, 0, 3, 3).due(3, "where", 0));
    t("'THE IMAGE': MINUTE", x -> x
        .town(rich).due(3, "image").due(2, "go", 0, 5).due(5, "count", 3).due(3, "on").due(3, "count", 3));
  }

  private static void refusals() {
    t("'how many there were': each counts for itself", x -> x
        .due(-1, "wall", 36).due(-1, "wall", 36).due(-1, "where", 0).due(-2, "oneMore", 0, 2).due(-3, "on")
        .due(-4, "row", -1).due(-6, "row", 100)
        .due(3, "count", 11).due(1, "count", 12).due(1, "count", 13).due(1, "count", 14).due(0, "count", 15)
        .due(1, "count", 16));
    t("'how many there were': -9 is none of them", x -> x
        .town("p00;").due(-9, "judge", 0).due(-9, "caught", 0).due(-9, "count", 99).due(-9, "next", 0, 0)
        .walls(1).due(-9, "steps", 0, 1).due(-9, "unlit", 0, 1, 0).row(1).due(-9, "fewest").due(-9, "whereAt", 0, 0, 99)
        .due(0, "count", 11).due(0, "count", 12).due(0, "count", 13).due(0, "count", 14).due(0, "count", 15)
        .due(0, "count", 16));
    t("'Of swap() REFUSALS are 1000000000 less them', counted as -1", x -> x
        .due(1000000001, "swap", 0, 0).due(1, "count", 11));
    t("of a FAULT nothing is counted", x -> {
      x.town("", -1000).town("x", -1000).town("w36;", -2000);
      for (int what = 11; what <= 16; what++) {
        x.due(0, "count", what);
      }
    });
  }
}
