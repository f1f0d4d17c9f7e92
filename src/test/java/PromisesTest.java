/** For each promise of the document ordinary calls, its edges and wrong ones, worked out by hand. */
public final class PromisesTest {
  private static final int LEAST = Integer.MIN_VALUE;
  private static final int GREATEST = Integer.MAX_VALUE;
  /** Walls that leave one way alone, of 23 steps from 0 to 29. */
  private static final int[] ONE_WAY = {6, 7, 8, 9, 10, 15, 19, 23, 26, 27, 28, 30};

  private static final Checks C = new Checks("PromisesTest");

  public static void main(String[] args) {
    promise1New();
    promise2Letter();
    promise3Town();
    promise3Faults();
    promise3What();
    promise4Lamp();
    promise5Wall();
    promise6Person();
    promise7Where();
    promise8Go();
    promise8Minutes();
    promise8Kinds();
    promise9Light();
    promise10Steps();
    promise11Lights();
    promise12Shown();
    promise13Seen();
    promise14By();
    promise15Unlit();
    promise16Forget();
    promise17Knows();
    promise18Known();
    promise19AllKnow();
    promise20WhereAt();
    promise21Next();
    promise22Fewest();
    promise23OneMore();
    promise24Two();
    promise25Swap();
    promise26Row();
    promise27Judge();
    promise28Caught();
    promise29Lots();
    promise30And31Image();
    promise32Count();
    C.end();
  }

  private static LampsThatRemember of(String text) {
    LampsThatRemember x = new LampsThatRemember();
    C.holds("it is a town: " + text, Checks.tell(x, text) > 0);
    return x;
  }

  private static void fault(String text, int due) {
    LampsThatRemember x = new LampsThatRemember();
    C.due("town() of " + text, Checks.tell(x, text), due);
    C.due("count(8) behind it", x.count(8), 0);
    nothingThere(x);
  }

  private static void nothingThere(LampsThatRemember x) {
    for (int what = 0; what <= 6; what++) {
      C.due("count(" + what + ") of nothing", x.count(what), 0);
    }
  }

  /** Looks at what one refusal changes: its own count, and nothing else that is counted. */
  private static void refused(LampsThatRemember x, String call, int[] before, long got, int due) {
    C.due(call, got, due);
    int number = due >= 1000000000 ? due - 1000000000 : -due;
    for (int what = 0; what <= 16; what++) {
      int more = what == 10 + number ? 1 : 0;
      C.due("count(" + what + ") behind refused " + call, x.count(what), before[what] + more);
    }
  }

  private static int[] counts(LampsThatRemember x) {
    int[] all = new int[17];
    for (int what = 0; what < all.length; what++) {
      all[what] = x.count(what);
    }
    return all;
  }

  private static void shows(LampsThatRemember x, int lamp, int i, int who, int cell, int minute) {
    C.due("shown(" + lamp + ", " + i + ", 0)", x.shown(lamp, i, 0), who);
    C.due("shown(" + lamp + ", " + i + ", 1)", x.shown(lamp, i, 1), cell);
    C.due("shown(" + lamp + ", " + i + ", 2)", x.shown(lamp, i, 2), minute);
  }

  private static void promise1New() {
    LampsThatRemember x = new LampsThatRemember();
    nothingThere(x);
    for (int what = 7; what <= 8; what++) {
      C.due("new: count(" + what + ")", x.count(what), 0);
    }
    for (int what = 11; what <= 16; what++) {
      C.due("new: count(" + what + ")", x.count(what), 0);
    }
    C.due("new: lamp(0, 0)", x.lamp(0, 0), -1);
    C.due("new: where(0)", x.where(0), -1);
    C.due("new: steps(0, 35)", x.steps(0, 35), 10);
    C.due("new: allKnow()", x.allKnow(), 0);
    C.due("new: on()", x.on(), -3);
    C.due("new: town()", x.town(), -1000);
    LampsThatRemember other = new LampsThatRemember();
    other.wall(3);
    other.row(3);
    C.due("another object's wall", x.count(2), 0);
    C.due("another object's row", x.count(7), 0);
  }

  private static void promise2Letter() {
    LampsThatRemember x = new LampsThatRemember();
    C.due("letter(0)", x.letter(0), 1);
    C.due("letter(255)", x.letter(255), 2);
    refused(x, "letter(-1)", counts(x), x.letter(-1), -4);
    refused(x, "letter(LEAST)", counts(x), x.letter(LEAST), -4);
    refused(x, "letter(256)", counts(x), x.letter(256), -6);
    refused(x, "letter(GREATEST)", counts(x), x.letter(GREATEST), -6);
    for (int i = 3; i <= 96; i++) {
      C.due("letter " + i, x.letter('l'), i);
    }
    refused(x, "the 97th letter", counts(x), x.letter('l'), -6);
    refused(x, "the 97th letter, below 0", counts(x), x.letter(-1), -4);
    C.due("count(8)", x.count(8), 96);
    C.due("town()", x.town(), -1000);
    C.due("letter behind a town", x.letter('l'), 1);
  }

  private static void promise3Town() {
    LampsThatRemember x = new LampsThatRemember();
    C.due("7 statements", Checks.tell(x, "ll142;w35;p00;g007;s0;s0;b0;"), 7);
    C.due("no letters are left", x.count(8), 0);
    C.due("a town more", Checks.tell(x, "lm000;p00;"), 2);
    C.due("its lamps come behind those there", x.lamp(1, 0), 2);
    C.due("its people, too", x.where(1), 0);
    C.due("the minute goes on", x.count(3), 2);
    C.due("a wall is no more", Checks.tell(x, "w35;"), 1);
    C.due("count(2)", x.count(2), 0);
    C.due("greatest text of 96 letters",
        Checks.tell(x, "w34;w34;w34;w34;w34;w34;w34;w34;w34;w34;w34;w34;w34;w34;w34;w34;w34;w34;w34;w34;w34;w34;w34;w34;"), 24);
    C.due("an even number of walls is none", x.count(2), 0);
    C.due("2 statements", Checks.tell(x, "w34;w34;"), 2);
    C.due("letters of a town ahead are no more", Checks.tell(x, "w34"), -1003);
  }

  private static void promise3Faults() {
    fault("", -1000);
    fault("x", -1000);
    fault(";", -1000);
    fault("L", -1000);
    fault("\0", -1000);
    fault("\u00ff", -1000);
    fault("l", -1001);
    fault("lx", -1001);
    fault("lL000;", -1001);
    fault("l;", -1001);
    fault("l\0000;", -1001);
    fault("ll", -1002);
    fault("lla00;", -1002);
    fault("ll0", -1003);
    fault("ll0/0;", -1003);
    fault("ll0:0;", -1003);
    fault("ll00;", -1004);
    fault("ll000", -1005);
    fault("ll0000;", -1005);
    fault("w", -1001);
    fault("w0;", -1002);
    fault("w000;", -1003);
    fault("p00", -1003);
    fault("p00;x", -1004);
    fault("p00;;", -1004);
    fault("g00;", -1003);
    fault("g0000;", -1004);
    fault("s;", -1001);
    fault("s00;", -1002);
    fault("bl;", -1001);
    fault("b0", -1002);
    // A fault of kind 1 goes ahead of one of kind 2, wherever they are.
    fault("w99;w", -1005);
    fault("w99;w00;q", -1008);
  }

  private static void promise3What() {
    fault("ll360;", -2000);
    fault("ll990;", -2000);
    fault("ll006;", -2000);
    fault("w36;", -2000);
    fault("p36;", -2000);
    fault("g000;", -2000);
    fault("s0;", -2000);
    fault("b0;", -2000);
    fault("ll000;s1;", -2006);
    fault("ll000;b1;", -2006);
    fault("w05;p05;", -2004);
    fault("p05;w05;", -2004);
    fault("p05;g036;", -2004);
    fault("p05;g105;", -2004);
    fault("p05;w06;g006;", -2008);
    fault("p00;w01;w06;g035;", -2012);
    fault("p00;p00;p00;p00;p00;", -2016);
    fault("ll000;lm000;lk000;ld000;lo000;lf000;lc000;", -2036);
    fault("w00;w01;w02;w03;w04;w05;w06;w07;w08;w09;w10;w11;w12;w13;w14;w15;w16;w17;w18;", -2072);
    LampsThatRemember x = of("w00;w01;w02;w03;w04;w05;w06;w07;w08;w09;w10;w11;w12;w13;w14;w15;w16;w17;");
    C.due("18 walls", x.count(2), 18);
    C.due("one of 18 is no more, another comes", Checks.tell(x, "w17;w18;"), 2);
    int[] before = counts(x);
    C.due("a fault", Checks.tell(x, "w19;"), -2000);
    C.due("another", Checks.tell(x, "lm000;p35;w00;w19;w00;"), -2018);
    C.due("and one of kind 1", Checks.tell(x, "p"), -1001);
    int[] behind = counts(x);
    for (int what = 0; what < behind.length; what++) {
      C.due("count(" + what + ") behind faults", behind[what], before[what]);
    }
  }

  private static void promise4Lamp() {
    LampsThatRemember x = of("ll142;ld203;lm000;lc051;lk282;lo153;");
    int[] kinds = {0, 1, 2, 3, 4, 5};
    int[] cells = {14, 20, 0, 5, 28, 15};
    int[] ranges = {2, 3, 0, 1, 2, 3};
    int[] lights = {13, 23, 1, 3, 11, 23};
    for (int i = 0; i < 6; i++) {
      C.due("KIND of " + i, x.lamp(i, 0), kinds[i]);
      C.due("CELL of " + i, x.lamp(i, 1), cells[i]);
      C.due("RANGE of " + i, x.lamp(i, 2), ranges[i]);
      C.due("LIT " + i, x.lamp(i, 3), 1);
      C.due("SCENES of " + i, x.lamp(i, 4), 0);
      C.due("CELLS of " + i, x.lamp(i, 5), lights[i]);
    }
    C.due("KIND f", of("lf355;").lamp(0, 0), 6);
    C.due("it comes with one", Checks.tell(x, "p21;p35;"), 2);
    C.due("carried by person 1 (5 modulo 4)", x.lamp(3, 1), 35);
    x.go(1, 29);
    C.due("and goes with him", x.lamp(3, 1), 29);
    C.due("it has one scene", x.lamp(3, 4), 1);
    LampsThatRemember y = of("lc010;lc020;p07;p00;");
    C.due("carried by person 1 on 0", y.lamp(0, 1), 0);
    C.due("person 2 is not there", y.lamp(1, 1), 2);
    y.image();
    y.person(35);
    C.due("now he is", y.lamp(1, 1), 35);
    y.on();
    C.due("and is no more", y.lamp(1, 1), 2);
    Checks.tell(x, "s3;");
    C.due("not lit", x.lamp(3, 3), 0);
    C.due("it would light", x.lamp(3, 5), 4);
    refused(x, "lamp(6, 0)", counts(x), x.lamp(6, 0), -1);
    refused(x, "lamp(-1, 0)", counts(x), x.lamp(-1, 0), -1);
    refused(x, "lamp(6, 9)", counts(x), x.lamp(6, 9), -1);
    refused(x, "lamp(GREATEST, 0)", counts(x), x.lamp(GREATEST, 0), -1);
    refused(x, "lamp(LEAST, 0)", counts(x), x.lamp(LEAST, 0), -1);
    refused(x, "lamp(0, 6)", counts(x), x.lamp(0, 6), -2);
    refused(x, "lamp(0, -1)", counts(x), x.lamp(0, -1), -2);
  }

  private static void promise5Wall() {
    LampsThatRemember x = of("p00;");
    C.due("wall(35)", x.wall(35), 1);
    C.due("wall(35) again", x.wall(35), 0);
    C.due("none", x.count(2), 0);
    refused(x, "wall(0)", counts(x), x.wall(0), -3);
    refused(x, "wall(-1)", counts(x), x.wall(-1), -1);
    refused(x, "wall(36)", counts(x), x.wall(36), -1);
    refused(x, "wall(64)", counts(x), x.wall(64), -1);
    for (int cell = 1; cell <= 18; cell++) {
      C.due("wall(" + cell + ")", x.wall(cell), 1);
    }
    refused(x, "wall(19)", counts(x), x.wall(19), -6);
    refused(x, "wall(0) of 18", counts(x), x.wall(0), -3);
    C.due("wall(18) of 18", x.wall(18), 0);
    C.due("wall(19) of 17", x.wall(19), 1);
  }

  private static void promise6Person() {
    LampsThatRemember x = of("w07;");
    C.due("person(0)", x.person(0), 0);
    C.due("person(0), where one is", x.person(0), 1);
    refused(x, "person(7)", counts(x), x.person(7), -3);
    refused(x, "person(-1)", counts(x), x.person(-1), -1);
    refused(x, "person(36)", counts(x), x.person(36), -1);
    C.due("person(35)", x.person(35), 2);
    C.due("person(6)", x.person(6), 3);
    refused(x, "a fifth", counts(x), x.person(6), -6);
    refused(x, "a fifth on a wall", counts(x), x.person(7), -3);
    refused(x, "a fifth nowhere", counts(x), x.person(99), -1);
  }

  private static void promise7Where() {
    LampsThatRemember x = of("p03;p35;");
    C.due("where(0)", x.where(0), 3);
    C.due("where(1)", x.where(1), 35);
    refused(x, "where(2)", counts(x), x.where(2), -1);
    refused(x, "where(-1)", counts(x), x.where(-1), -1);
    refused(x, "where(LEAST)", counts(x), x.where(LEAST), -1);
    refused(x, "where(GREATEST)", counts(x), x.where(GREATEST), -1);
  }

  private static void promise8Go() {
    LampsThatRemember x = of("ll215;p07;");
    C.due("go to where he is", x.go(0, 7), 0);
    C.due("no minute", x.count(3), 0);
    C.due("no scene", x.count(4), 0);
    C.due("go(0, 21)", x.go(0, 21), 4);
    C.due("there", x.where(0), 21);
    C.due("4 minutes", x.count(3), 4);
    // Of several cells with a step less left the least: first right, then down.
    shows(x, 0, 3, 0, 8, 1);
    shows(x, 0, 2, 0, 9, 2);
    shows(x, 0, 1, 0, 15, 3);
    shows(x, 0, 0, 0, 21, 4);
    C.due("go(0, 7)", x.go(0, 7), 4);
    // Back: first up, then left.
    shows(x, 0, 3, 0, 15, 5);
    shows(x, 0, 2, 0, 9, 6);
    shows(x, 0, 1, 0, 8, 7);
    shows(x, 0, 0, 0, 7, 8);
    x.wall(8);
    C.due("around a wall", x.go(0, 9), 4);
    shows(x, 0, 3, 0, 1, 9);
    refused(x, "go(0, 8)", counts(x), x.go(0, 8), -3);
    refused(x, "go(1, 0)", counts(x), x.go(1, 0), -1);
    refused(x, "go(-1, 0)", counts(x), x.go(-1, 0), -1);
    refused(x, "go(0, 36)", counts(x), x.go(0, 36), -1);
    refused(x, "go(0, -1)", counts(x), x.go(0, -1), -1);
    refused(x, "go(GREATEST, LEAST)", counts(x), x.go(GREATEST, LEAST), -1);
    C.due("he is where he was", x.where(0), 9);
    LampsThatRemember y = of("ld021;lk031;ll005;s2;p00;w06;w30;");
    C.due("go(0, 5)", y.go(0, 5), 5);
    C.due("lamps light alone what their range tells", y.lamp(0, 4), 3);
    C.due("lamp 1, too", y.lamp(1, 4), 3);
    C.due("lamp 2 is not lit", y.lamp(2, 4), 0);
  }

  private static void promise8Minutes() {
    LampsThatRemember x = of("lf285;p00;");
    for (int cell : ONE_WAY) {
      C.due("wall(" + cell + ")", x.wall(cell), 1);
    }
    for (int i = 0; i < 434; i++) {
      C.due("go", x.go(0, i % 2 == 0 ? 29 : 0), 23);
    }
    C.due("MINUTE", x.count(3), 9982);
    refused(x, "go to minute 10005", counts(x), x.go(0, 29), -6);
    C.due("go(0, 24)", x.go(0, 24), 16);
    C.due("MINUTE", x.count(3), 9998);
    C.due("a town in which it goes above", Checks.tell(x, "g025;g024;"), -2005);
    C.due("MINUTE", x.count(3), 9998);
    C.due("go to minute 9999", x.go(0, 25), 1);
    C.due("MINUTE", x.count(3), 9999);
    refused(x, "go to minute 10000", counts(x), x.go(0, 24), -6);
    refused(x, "a wall ahead of the minute", counts(x), x.go(0, 26), -3);
    C.due("go to where he is", x.go(0, 25), 0);
    C.due("by(0, 9999)", x.by(0, 9999), 0);
    C.due("image()", x.image(), 9999);
    C.due("on()", x.on(), 9999);
  }

  private static void promise8Kinds() {
    LampsThatRemember x = of("ll005;ld005;lm005;lc015;lk005;lo005;p00;p06;");
    C.due("5 steps to and fro", x.go(0, 1) + x.go(0, 0) + x.go(0, 1) + x.go(0, 2) + x.go(0, 1), 5);
    int[] kept = {5, 5, 0, 5, 3, 3};
    for (int i = 0; i < 6; i++) {
      C.due("lamp " + i + " keeps", x.lamp(i, 4), kept[i]);
    }
    shows(x, 0, 0, 0, 1, 5);
    shows(x, 1, 0, 9, 1, 5);
    shows(x, 1, 4, 9, 1, 1);
    C.due("carried on 6 (person 1), it lights 1", x.lamp(3, 1), 6);
    shows(x, 4, 0, 9, 1, 5);
    shows(x, 4, 2, 9, 1, 3);
    shows(x, 5, 0, 0, 1, 5);
    shows(x, 5, 1, 0, 2, 4);
    LampsThatRemember y = of("ll000;lc000;lf015;lo015;p00;");
    C.due("go(0, 5)", y.go(0, 5), 5);
    C.due("left behind", y.lamp(0, 4), 0);
    C.due("he carries it and is on each cell", y.lamp(1, 4), 5);
    shows(y, 1, 4, 0, 1, 1);
    C.due("the oldest is shown first", y.shown(2, 0, 2), 1);
    y.go(0, 0);
    C.due("0 and 1 .. 5", y.lamp(2, 4), 6);
    // 4, 3, 2, 1 are kept anew, so that 5 is the oldest.
    shows(y, 2, 0, 0, 5, 5);
    shows(y, 2, 5, 0, 0, 10);
    shows(y, 3, 5, 0, 5, 5);
    C.due("of 10 scenes 9 are kept", y.lamp(1, 4), 9);
    shows(y, 1, 8, 0, 2, 2);
    LampsThatRemember z = of("lo145;p00;g035;");
    C.due("9 new cells, and 35, that it does not light", z.lamp(0, 4), 9);
    shows(z, 0, 8, 0, 1, 1);
    C.due("29 again, and 28", z.go(0, 28), 2);
    C.due("an overlaid one keeps 9, too", z.lamp(0, 4), 9);
    shows(z, 0, 0, 0, 28, 12);
    shows(z, 0, 1, 0, 29, 11);
    shows(z, 0, 8, 0, 2, 2);
  }

  private static void promise9Light() {
    LampsThatRemember x = of("ll142;");
    C.due("light(0, 1)", x.light(0, 1), 1);
    C.due("light(0, 0)", x.light(0, 0), 1);
    C.due("lamp(0, 3)", x.lamp(0, 3), 0);
    C.due("light(0, 0) again", x.light(0, 0), 0);
    C.due("light(0, 1)", x.light(0, 1), 0);
    C.due("lamp(0, 3)", x.lamp(0, 3), 1);
    refused(x, "light(1, 0)", counts(x), x.light(1, 0), -1);
    refused(x, "light(-1, 5)", counts(x), x.light(-1, 5), -1);
    refused(x, "light(0, 2)", counts(x), x.light(0, 2), -2);
    refused(x, "light(0, -1)", counts(x), x.light(0, -1), -2);
    Checks.tell(x, "p14;g015;b0;");
    C.due("a broken one has no scenes", x.lamp(0, 4), 0);
    C.due("and is not lit", x.light(0, 1), 0);
    x.go(0, 14);
    C.due("lit again, it keeps again", x.lamp(0, 4), 1);
  }

  private static void promise10Steps() {
    LampsThatRemember x = of("w01;w07;w13;w19;w25;");
    C.due("steps(0, 2)", x.steps(0, 2), 12);
    C.due("steps(2, 0)", x.steps(2, 0), 12);
    C.due("steps(5, 6): no way around the edge", x.steps(5, 6), 14);
    C.due("steps(4, 4)", x.steps(4, 4), 0);
    C.due("to a wall", x.steps(0, 1), -9);
    C.due("from a wall", x.steps(1, 0), -9);
    C.due("from a wall to it", x.steps(1, 1), -9);
    x.wall(31);
    C.due("parted", x.steps(0, 35), -9);
    C.due("not refused", x.count(11), 0);
    refused(x, "steps(36, 0)", counts(x), x.steps(36, 0), -1);
    refused(x, "steps(0, 36)", counts(x), x.steps(0, 36), -1);
    refused(x, "steps(-1, 0)", counts(x), x.steps(-1, 0), -1);
    refused(x, "steps(0, LEAST)", counts(x), x.steps(0, LEAST), -1);
    LampsThatRemember y = new LampsThatRemember();
    for (int cell : ONE_WAY) {
      y.wall(cell);
    }
    C.due("the one way", y.steps(0, 29), 23);
  }

  private static void promise11Lights() {
    LampsThatRemember x = of("ll141;ll142;s1;w15;");
    C.due("its own", x.lights(0, 14), 1);
    C.due("beside", x.lights(0, 8), 1);
    C.due("a wall is not lit", x.lights(0, 15), 0);
    C.due("2 steps", x.lights(0, 2), 0);
    C.due("not lit, it lights in its range", x.lights(1, 2), 1);
    C.due("not through the wall", x.lights(1, 16), 0);
    x.wall(14);
    C.due("on a wall that alone", x.lights(1, 14), 1);
    C.due("nothing beside", x.lights(1, 13), 0);
    C.due("one cell", x.lamp(1, 5), 1);
    refused(x, "lights(2, 0)", counts(x), x.lights(2, 0), -1);
    refused(x, "lights(0, 36)", counts(x), x.lights(0, 36), -1);
    refused(x, "lights(0, -1)", counts(x), x.lights(0, -1), -1);
    C.due("no light around the edge", of("ll051;").lights(0, 6), 0);
    C.due("nor the other", of("ll061;").lights(0, 5), 0);
  }

  private static void promise12Shown() {
    LampsThatRemember x = of("ll005;lf005;p00;g001;g002;");
    shows(x, 0, 0, 0, 2, 2);
    shows(x, 0, 1, 0, 1, 1);
    shows(x, 1, 0, 0, 1, 1);
    shows(x, 1, 1, 0, 2, 2);
    refused(x, "shown(0, 2, 0)", counts(x), x.shown(0, 2, 0), -1);
    refused(x, "shown(1, 2, 0)", counts(x), x.shown(1, 2, 0), -1);
    refused(x, "shown(0, -1, 0)", counts(x), x.shown(0, -1, 0), -1);
    refused(x, "shown(0, LEAST, 0)", counts(x), x.shown(0, LEAST, 0), -1);
    refused(x, "shown(0, GREATEST, 9)", counts(x), x.shown(0, GREATEST, 9), -1);
    refused(x, "shown(2, 0, 0)", counts(x), x.shown(2, 0, 0), -1);
    refused(x, "shown(0, 0, 3)", counts(x), x.shown(0, 0, 3), -2);
    refused(x, "shown(0, 0, -1)", counts(x), x.shown(0, 0, -1), -2);
  }

  private static void promise13Seen() {
    LampsThatRemember x = of("ll005;ld005;p00;p01;p02;p03;g001;g302;");
    C.due("0 and 3", x.seen(0), 9);
    C.due("a dim one tells nobody", x.seen(1), 0);
    C.due("1, too", x.go(1, 0) * 100 + x.seen(0), 111);
    refused(x, "seen(2)", counts(x), x.seen(2), -1);
    refused(x, "seen(-1)", counts(x), x.seen(-1), -1);
  }

  private static void promise14By() {
    LampsThatRemember x = of("ll005;ld005;lo005;ll350;p00;p06;g001;g112;");
    C.due("by(0, 1)", x.by(0, 1), 5);
    C.due("by(1, 1)", x.by(1, 1), 0);
    C.due("by(1, 2)", x.by(1, 2), 5);
    C.due("by(0, 0)", x.by(0, 0), 0);
    C.due("by(0, 9999)", x.by(0, 9999), 0);
    refused(x, "by(2, 1)", counts(x), x.by(2, 1), -1);
    refused(x, "by(9, 1): nobody is 9", counts(x), x.by(9, 1), -1);
    refused(x, "by(-1, -1)", counts(x), x.by(-1, -1), -1);
    refused(x, "by(0, -1)", counts(x), x.by(0, -1), -4);
    refused(x, "by(0, 10000)", counts(x), x.by(0, 10000), -6);
  }

  private static void promise15Unlit() {
    LampsThatRemember x = of("ll021;ll321;ll145;s2;");
    C.due("around both lights there is no way", x.unlit(0, 5, 0), 9);
    C.due("by lamp 0's light", x.unlit(0, 5, 1), 5);
    C.due("from its light", x.unlit(1, 5, 0), -9);
    C.due("to its light", x.unlit(5, 1, 0), -9);
    C.due("both, told", x.unlit(1, 2, 1), 1);
    C.due("told ones that are not there", x.unlit(0, 5, 62), 9);
    C.due("one that is not lit does not count", x.unlit(14, 14, 0), 0);
    x.light(2, 1);
    C.due("lit", x.unlit(14, 14, 0), -9);
    C.due("told all", x.unlit(0, 35, 63), 10);
    x.wall(0);
    C.due("from a wall", x.unlit(0, 35, 63), -9);
    C.due("on a wall", x.unlit(0, 0, 63), -9);
    refused(x, "unlit(36, 0, 0)", counts(x), x.unlit(36, 0, 0), -1);
    refused(x, "unlit(0, -1, -1)", counts(x), x.unlit(0, -1, -1), -1);
    refused(x, "unlit(0, 0, -1)", counts(x), x.unlit(0, 0, -1), -4);
    refused(x, "unlit(0, 0, 64)", counts(x), x.unlit(0, 0, 64), -6);
  }

  private static void promise16Forget() {
    LampsThatRemember x = of("ll005;lk005;lm005;lo005;p00;g001;g000;g001;");
    C.due("l: 3 of 9, the oldest", x.forget(0, 1), 7);
    C.due("l: the latest", x.forget(0, 3), 9);
    C.due("k: 3 of 3, the oldest", x.forget(1, 1), 1);
    C.due("k: the latest", x.forget(1, 3), 3);
    C.due("m: none", x.forget(2, 3), -9);
    C.due("o: taken out", x.forget(3, 1), -9);
    C.due("o: the oldest", x.forget(3, 2), 8);
    C.due("o: the latest", x.forget(3, 3), 9);
    C.due("no such minute", x.forget(0, 0), -9);
    C.due("the last minute", x.forget(0, 9999), -9);
    C.due("not refused", x.count(11), 0);
    refused(x, "forget(4, 0)", counts(x), x.forget(4, 0), -1);
    refused(x, "forget(4, -1)", counts(x), x.forget(4, -1), -1);
    refused(x, "forget(0, -1)", counts(x), x.forget(0, -1), -4);
    refused(x, "forget(0, 10000)", counts(x), x.forget(0, 10000), -6);
  }

  private static void promise17Knows() {
    LampsThatRemember x = of("ll001;ld001;ll355;s2;p00;p06;p35;g001;");
    C.due("0 and 1 are in lamp 0's light", x.knows(0, 1, 1), 3);
    C.due("another cell", x.knows(0, 0, 1), 0);
    C.due("another minute", x.knows(0, 1, 2), 0);
    C.due("minute 0", x.knows(0, 1, 0), 0);
    C.due("minute 9999", x.knows(0, 1, 9999), 0);
    C.due("1 alone", of("ll001;p35;p06;g100;g106;").knows(1, 0, 1), 2);
    C.due("another person", x.knows(1, 1, 1), 0);
    x.light(0, 0);
    C.due("not lit, it shows", x.knows(0, 1, 1), 3);
    Checks.tell(x, "b0;");
    C.due("the dim one does not tell who", x.knows(0, 1, 1), 0);
    refused(x, "knows(3, 1, 1)", counts(x), x.knows(3, 1, 1), -1);
    refused(x, "knows(9, 1, 1)", counts(x), x.knows(9, 1, 1), -1);
    refused(x, "knows(0, 36, -1)", counts(x), x.knows(0, 36, -1), -1);
    refused(x, "knows(0, 1, -1)", counts(x), x.knows(0, 1, -1), -4);
    refused(x, "knows(0, 1, 10000)", counts(x), x.knows(0, 1, 10000), -6);
    // A lamp that is carried shows where it is now.
    LampsThatRemember y = of("lc001;p00;p35;g034;g000;");
    C.due("only he", y.knows(0, 1, 1), 0);
    C.due("the scenes of its last 9", y.lamp(0, 4), 9);
    C.due("only he", y.knows(0, 0, y.count(3)), 1);
  }

  private static void promise18Known() {
    LampsThatRemember x = of("ll005;ld005;lo005;p00;p35;g001;g000;g001;");
    C.due("3 with who, 3 without", x.known(0), 6);
    C.due("too far", x.known(1), 0);
    Checks.tell(x, "b0;");
    C.due("2 with who, 3 without", x.known(0), 5);
    Checks.tell(x, "b1;");
    C.due("2 with who", x.known(0), 2);
    refused(x, "known(2)", counts(x), x.known(2), -1);
    refused(x, "known(-1)", counts(x), x.known(-1), -1);
  }

  private static void promise19AllKnow() {
    LampsThatRemember x = of("ll021;ll141;p03;p20;p35;g102;g109;");
    C.due("lamp 0: 8, 2, 3", x.lamp(0, 4), 3);
    int first = x.lamp(0, 4);
    int second = x.lamp(1, 4);
    C.due("lamp 1: 14, 8", second, 2);
    C.due("he is on 9, lit by none; lamp 0 shows to person 0", x.allKnow(), first);
    C.due("known(1)", x.known(1), 0);
    x.go(2, 15);
    C.due("lamp 1 shows to person 2, its own scene, too; 8 is in both", x.allKnow(), 5);
    C.due("known(2)", x.known(2), 3);
    C.due("known(0)", x.known(0), 3);
    C.due("nobody", of("ll001;").allKnow(), 0);
  }

  private static void promise20WhereAt() {
    LampsThatRemember x = of("lo140;p13;");
    C.due("nothing is known", x.whereAt(0, 0, -1), 36);
    C.due("the last", x.whereAt(0, 0, 35), 35);
    C.due("no more", x.whereAt(0, 0, 36), -9);
    C.due("GREATEST", x.whereAt(0, 0, GREATEST), -9);
    C.due("go", x.go(0, 14), 1);
    C.due("just there", x.whereAt(0, 1, -1), 1);
    C.due("there", x.whereAt(0, 1, 0), 14);
    C.due("a minute ahead", x.whereAt(0, 0, -1), 5);
    C.due("the least", x.whereAt(0, 0, 0), 8);
    C.due("a minute behind", x.whereAt(0, 2, -1), 5);
    C.due("minute 9999", x.whereAt(0, 9999, -1), 36);
    x.wall(15);
    C.due("walls are none", x.whereAt(0, 2, -1), 4);
    x.go(0, 13);
    x.wall(14);
    C.due("the cell of the scene is a wall now", x.whereAt(0, 1, -1), 0);
    C.due("so there is none", x.whereAt(0, 5, 0), -9);
    refused(x, "whereAt(1, 0, 0)", counts(x), x.whereAt(1, 0, 0), -1);
    refused(x, "whereAt(1, -1, -2)", counts(x), x.whereAt(1, -1, -2), -1);
    refused(x, "whereAt(0, -1, 0)", counts(x), x.whereAt(0, -1, 0), -4);
    refused(x, "whereAt(0, 0, -2)", counts(x), x.whereAt(0, 0, -2), -4);
    refused(x, "whereAt(0, 10000, -2)", counts(x), x.whereAt(0, 10000, -2), -4);
    refused(x, "whereAt(0, 10000, 0)", counts(x), x.whereAt(0, 10000, 0), -6);
    whereAtByLamps();
  }

  private static void whereAtByLamps() {
    LampsThatRemember x = of("ll141;ld351;lo311;p00;p14;");
    C.due("a lamp of kind l alone would have seen him", x.whereAt(0, 0, -1), 31);
    x.light(0, 0);
    C.due("were it lit", x.whereAt(0, 0, -1), 36);
    x.light(0, 1);
    for (int i = 0; i < 4; i++) {
      x.go(1, 13);
      x.go(1, 14);
    }
    C.due("8 scenes of another", x.whereAt(0, 0, -1), 31);
    x.go(1, 13);
    C.due("9 scenes: his may have fallen out", x.whereAt(0, 0, -1), 36);
    LampsThatRemember y = of("ll145;lo145;p13;g014;");
    C.due("at the minute of its scene the lamp does not shut him out", y.whereAt(0, 1, -1), 1);
    C.due("by two scenes", y.go(0, 16) + 10 * y.whereAt(0, 2, -1), 12);
    C.due("just there", y.whereAt(0, 2, 0), 15);
    LampsThatRemember z = of("lo145;p12;g013;g014;b0;g015;g016;g016;");
    C.due("broken and not lit, nothing is known", z.whereAt(0, 3, -1), 36);
    // Scenes from both sides: 13 at minute 1, 15 at minute 3, so at 2 on the cells beside both.
    LampsThatRemember v = of("lo130;lo150;p12;g016;");
    C.due("between two scenes", v.whereAt(0, 2, -1), 1);
    C.due("the one beside both", v.whereAt(0, 2, 0), 14);
  }

  private static void promise21Next() {
    LampsThatRemember x = of("lm001;lm005;lm355;s1;p00;");
    // 36 cells: lamp 0 lights 3, lamp 1 (not lit) and lamp 2 light 21 each.
    C.due("of two alike the least", x.next(0, 0), 1);
    Checks.tell(x, "lm142;");
    C.due("13 and 23 are less alike than 21 and 15", x.next(0, 0), 1);
    Checks.tell(x, "lm073;");
    C.due("17 and 19", x.next(0, 0), 4);
    C.due("minute 9999", x.next(0, 9999), 4);
    C.due("no lamp", of("p00;").next(0, 0), -9);
    LampsThatRemember y = of("ll140;p13;g014;g013;w14;");
    C.due("no such cell", y.next(0, 1), -9);
    C.due("not refused", y.count(11), 0);
    LampsThatRemember z = of("ll145;lo000;lo145;p13;g014;");
    C.due("one cell: each parts it 0 to 1, the least", z.next(0, 1), 0);
    refused(x, "next(1, 0)", counts(x), x.next(1, 0), -1);
    refused(x, "next(1, -1)", counts(x), x.next(1, -1), -1);
    refused(x, "next(0, -1)", counts(x), x.next(0, -1), -4);
    refused(x, "next(0, 10000)", counts(x), x.next(0, 10000), -6);
  }

  private static void promise22Fewest() {
    LampsThatRemember x = of("ll000;ll010;ll001;lm020;lm011;s3;");
    C.due("no cells, no lamps", x.fewest(), 0);
    x.row(0);
    C.due("of 0, 2 and 4 the least", x.fewest(), 1);
    x.row(1);
    C.due("one for both", x.fewest(), 4);
    x.row(2);
    C.due("lamp 4 alone", x.fewest(), 16);
    C.due("the row stays", x.count(7), 3);
    x.row(6);
    C.due("2 and 3 or 2 and 4", x.fewest(), 12);
    x.row(35);
    C.due("none", x.fewest(), -9);
    x.row(36);
    refused(x, "36", counts(x), x.fewest(), -3);
    C.due("no lamps", new LampsThatRemember().fewest(), 0);
    LampsThatRemember y = of("ll000;ll010;ll020;ll030;ll040;ll050;");
    for (int cell = 0; cell < 6; cell++) {
      y.row(cell);
    }
    C.due("all six", y.fewest(), 63);
    LampsThatRemember z = new LampsThatRemember();
    z.row(35);
    C.due("no lamp for it", z.fewest(), -9);
    z.row(99);
    refused(z, "99", counts(z), z.fewest(), -3);
  }

  private static void promise23OneMore() {
    LampsThatRemember x = new LampsThatRemember();
    C.due("range 0", x.oneMore(0, 0), 1);
    C.due("its cell", x.oneMore(0, 1), 0);
    C.due("range 1", x.oneMore(1, 0), 5);
    C.due("the least in the midst", x.oneMore(1, 1), 7);
    C.due("range 5 in the midst", x.oneMore(5, 0), 35);
    C.due("its cell", x.oneMore(5, 1), 14);
    Checks.tell(x, "ll005;");
    C.due("15 are dark", x.oneMore(5, 0), 15);
    C.due("the least cell that lights them all", x.oneMore(5, 1), 15);
    x.light(0, 0);
    C.due("not lit", x.oneMore(5, 0), 35);
    Checks.tell(x, "ll145;ll215;s1;s1;");
    C.due("all is lit", x.oneMore(5, 0), 0);
    C.due("the least", x.oneMore(5, 1), 0);
    x.wall(9);
    C.due("a wall is dark, till a lamp hangs there", x.oneMore(5, 0), 1);
    C.due("the wall", x.oneMore(5, 1), 9);
    refused(x, "oneMore(-1, 2)", counts(x), x.oneMore(-1, 2), -4);
    refused(x, "oneMore(6, 2)", counts(x), x.oneMore(6, 2), -6);
    refused(x, "oneMore(5, 2)", counts(x), x.oneMore(5, 2), -2);
    refused(x, "oneMore(0, -1)", counts(x), x.oneMore(0, -1), -2);
  }

  private static void promise24Two() {
    LampsThatRemember x = of("ll005;ld005;lo005;lm005;ll350;p00;g001;g000;g001;");
    C.due("who is not looked at", x.two(0, 1), 3);
    C.due("2 are left of those", x.two(0, 2), 2);
    C.due("the other way", x.two(2, 0), 2);
    C.due("with itself", x.two(0, 0), 3);
    C.due("a moon", x.two(0, 3), 0);
    C.due("another place", x.two(4, 0), 0);
    refused(x, "two(0, 5)", counts(x), x.two(0, 5), -1);
    refused(x, "two(-1, 0)", counts(x), x.two(-1, 0), -1);
  }

  private static void promise25Swap() {
    LampsThatRemember x = of("ll000;ll145;");
    C.due("35 are lit now, 21 then", x.swap(0, 1), -14);
    C.due("in mind", x.lamp(0, 1), 0);
    C.due("the other way", x.swap(1, 0), -14);
    C.due("with itself", x.swap(1, 1), 0);
    x.light(1, 0);
    C.due("one is lit", x.swap(0, 1), 0);
    refused(x, "swap(0, 2)", counts(x), x.swap(0, 2), 1000000001);
    refused(x, "swap(-1, 0)", counts(x), x.swap(-1, 0), 1000000001);
    // A carried one's own CELL changes, and with it who carries it: here person 2, then 1.
    LampsThatRemember y = of("lc020;lm050;p00;p01;p01;");
    C.due("both on cells of their own: 1 and 5; then 1 and 2", y.swap(0, 1), 0);
    LampsThatRemember z = of("lc021;lm310;p00;p00;p14;");
    C.due("carried by nobody then (31 modulo 4), on 31", z.lamp(0, 1), 14);
    C.due("14 lights 5, 31 lights 4", z.swap(0, 1), -1);
  }

  private static void promise26Row() {
    LampsThatRemember x = new LampsThatRemember();
    C.due("row(0)", x.row(0), 1);
    C.due("row(99)", x.row(99), 2);
    refused(x, "row(100)", counts(x), x.row(100), -6);
    refused(x, "row(GREATEST)", counts(x), x.row(GREATEST), -6);
    refused(x, "row(-1)", counts(x), x.row(-1), -4);
    refused(x, "row(LEAST)", counts(x), x.row(LEAST), -4);
    for (int i = 3; i <= 12; i++) {
      C.due("row " + i, x.row(35), i);
    }
    refused(x, "the 13th", counts(x), x.row(0), -6);
    refused(x, "the 13th, below 0", counts(x), x.row(-1), -4);
    C.due("count(7)", x.count(7), 12);
  }

  private static void promise27Judge() {
    LampsThatRemember x = of("p05;w17;");
    C.due("no row", x.judge(0), -9);
    x.row(5);
    x.row(11);
    x.row(10);
    C.due("a walk", x.judge(0), -9);
    x.row(11);
    x.row(12);
    C.due("no way around the edge", x.judge(0), 4);
    C.due("the row stays", x.count(7), 5);
    x.wall(11);
    C.due("a wall", x.judge(0), 1);
    x.wall(5 + 6);
    x.row(17);
    C.due("the first", x.judge(0), 4);
    refused(x, "judge(1)", counts(x), x.judge(1), -1);
    refused(x, "judge(-1)", counts(x), x.judge(-1), -1);
    LampsThatRemember y = of("p35;");
    y.row(41);
    C.due("no cell below", y.judge(0), 0);
    LampsThatRemember z = of("p35;");
    z.row(36);
    C.due("no cell to the right", z.judge(0), 0);
    LampsThatRemember v = of("p00;");
    v.row(2);
    C.due("two away", v.judge(0), 0);
  }

  private static void promise28Caught() {
    LampsThatRemember x = of("ll141;lm351;ll301;s2;p00;");
    x.row(30);
    x.row(99);
    x.row(34);
    x.row(14);
    C.due("by a moon, too", x.caught(0), 2);
    C.due("the row has none then", x.count(7), 0);
    x.row(0);
    x.row(30);
    C.due("by none", x.caught(0), -9);
    C.due("the row has none then", x.count(7), 0);
    C.due("none of none", x.caught(0), -9);
    x.row(99);
    C.due("99 is lit by no lamp on 0", of("ll000;p00;").caught(0), -9);
    C.due("nor is it here", x.caught(0), -9);
    x.row(14);
    refused(x, "caught(1)", counts(x), x.caught(1), -1);
    refused(x, "caught(-1)", counts(x), x.caught(-1), -1);
    C.due("the row stays", x.count(7), 1);
    x.row(8);
    C.due("at once", x.caught(0), 0);
    LampsThatRemember y = of("ll000;p00;");
    y.row(99);
    y.row(35);
    C.due("no cell is not cell 0", y.caught(0), -9);
  }

  private static void promise29Lots() {
    LampsThatRemember x = of("ll145;p14;");
    C.due("lit at each minute but on 35", x.lots(0, 1, 0), 12);
    C.due("20 walks", x.lots(0, 20, 0) > 200 ? 1 : 0, 1);
    Checks.tell(x, "lm145;lo145;");
    C.due("two lamps, no moon", x.lots(0, 1, 0), 24);
    x.light(2, 0);
    C.due("one is not lit", x.lots(0, 1, 0), 12);
    C.due("in mind", x.where(0) * 100 + x.count(3), 1400);
    LampsThatRemember y = of("ll140;p14;");
    LampsThatRemember w = of("ld071;p14;w08;");
    for (int z : new int[] {0, 1, -1, 7, LEAST, GREATEST, 123456789}) {
      for (int n = 1; n <= 20; n++) {
        C.due("lots(0, " + n + ", " + z + ")", y.lots(0, n, z), minutesWalked(n, z, -1, 14));
        int all = minutesWalked(n, z, 8, 7) + minutesWalked(n, z, 8, 1) + minutesWalked(n, z, 8, 6) + minutesWalked(n, z, 8, 13);
        C.due("beside a wall lots(0, " + n + ", " + z + ")", w.lots(0, n, z), all);
      }
    }
    LampsThatRemember v = of("ll070;p07;w01;w06;w08;w13;");
    C.due("he can not go", v.lots(0, 20, GREATEST), 240);
    C.due("least z", v.lots(0, 1, LEAST), 12);
    LampsThatRemember u = of("lc000;p14;");
    C.due("a carried one stays where it is", u.lots(0, 2, 0), minutesWalked(2, 0, -1, 14));
    refused(x, "lots(1, 1, 1)", counts(x), x.lots(1, 1, 1), -1);
    refused(x, "lots(-1, 0, 1)", counts(x), x.lots(-1, 0, 1), -1);
    refused(x, "lots(0, 0, 1)", counts(x), x.lots(0, 0, 1), -4);
    refused(x, "lots(0, 21, 1)", counts(x), x.lots(0, 21, 1), -6);
    refused(x, "lots(0, LEAST, 1)", counts(x), x.lots(0, LEAST, 1), -4);
  }

  /** How many minutes of n walks from 14, beside one wall, are on a cell. */
  private static int minutesWalked(int n, int z, int wall, int on) {
    long seed = z & 0xffffffffL;
    int minutes = 0;
    for (int walk = 0; walk < n; walk++) {
      int row = 2;
      int column = 2;
      for (int minute = 0; minute < 12; minute++) {
        seed = (seed * 1664525 + 1013904223) & 0xffffffffL;
        long side = (seed & 0x7fffffff) / 256 % 4;
        int nextRow = row + (side == 0 ? -1 : side == 3 ? 1 : 0);
        int nextColumn = column + (side == 1 ? -1 : side == 2 ? 1 : 0);
        boolean in = nextRow >= 0 && nextRow <= 5 && nextColumn >= 0 && nextColumn <= 5;
        if (in && nextRow * 6 + nextColumn != wall) {
          row = nextRow;
          column = nextColumn;
        }
        minutes += row * 6 + column == on ? 1 : 0;
      }
    }
    return minutes;
  }

  private static void promise30And31Image() {
    LampsThatRemember x = of("ll005;lk005;lf005;p00;p35;w20;g003;");
    refused(x, "on()", counts(x), x.on(), -3);
    C.due("image()", x.image(), 3);
    C.due("more comes", Checks.tell(x, "lm001;p35;w20;w21;s0;b1;g000;"), 7);
    x.row(7);
    x.letter('l');
    x.wall(99);
    C.due("on()", x.on(), 3);
    int[] due = {3, 2, 1, 3, 9, 0, 7};
    for (int what = 0; what < due.length; what++) {
      if (what != 5) {
        C.due("count(" + what + ") as then", x.count(what), due[what]);
      }
    }
    C.due("where(0)", x.where(0), 3);
    shows(x, 0, 0, 0, 3, 3);
    shows(x, 1, 0, 9, 3, 3);
    shows(x, 2, 0, 0, 1, 1);
    C.due("the row is as it was", x.count(7), 1);
    C.due("letters, too", x.count(8), 1);
    C.due("refusals, too", x.count(11), 1);
    C.due("refusals, too", x.count(13), 1);
    C.due("go on", x.go(0, 5), 2);
    C.due("scenes of the image do not change with it", x.on(), 3);
    C.due("count(4)", x.count(4), 9);
    C.due("where(0)", x.where(0), 3);
    x.go(1, 34);
    C.due("another image", x.image(), 4);
    x.wall(8);
    C.due("on from that", x.on(), 4);
    C.due("where(1)", x.where(1), 34);
    C.due("count(2)", x.count(2), 1);
    LampsThatRemember y = new LampsThatRemember();
    C.due("an image of nothing", y.image(), 0);
    Checks.tell(y, "ll000;p00;w01;");
    C.due("on", y.on(), 0);
    nothingThere(y);
  }

  private static void promise32Count() {
    LampsThatRemember x = of("ll000;lm141;lk071;s1;p00;p01;w35;g001;g000;");
    int[] due = {3, 2, 1, 2, 2, 6, 5, 0, 0, -9, -9};
    for (int what = 0; what < due.length; what++) {
      C.due("count(" + what + ")", x.count(what), due[what]);
    }
    x.row(0);
    x.letter(0);
    C.due("count(7)", x.count(7), 1);
    C.due("count(8)", x.count(8), 1);
    for (int what : new int[] {-1, 9, 10, 17, LEAST, GREATEST}) {
      C.due("count(" + what + ")", x.count(what), -9);
    }
    x.lamp(9, 9);
    x.swap(9, 9);
    x.lamp(0, 9);
    x.on();
    x.row(-1);
    x.row(-2);
    x.row(100);
    int[] refusals = {2, 1, 1, 2, 0, 1};
    for (int i = 0; i < refusals.length; i++) {
      C.due("count(" + (11 + i) + ")", x.count(11 + i), refusals[i]);
    }
  }
}
