/** Calls by their names, so that a test can tell which call was not answered as due. */
final class Calls {
  private Calls() {
  }

  static String text(String name, int... a) {
    StringBuilder call = new StringBuilder(name).append('(');
    for (int i = 0; i < a.length; i++) {
      call.append(i == 0 ? "" : ", ").append(a[i]);
    }
    return call.append(')').toString();
  }

  static int answer(LampsThatRemember x, String name, int... a) {
    switch (name) {
      case "letter": return x.letter(a[0]);
      case "town": return x.town();
      case "lamp": return x.lamp(a[0], a[1]);
      case "wall": return x.wall(a[0]);
      case "person": return x.person(a[0]);
      case "where": return x.where(a[0]);
      case "go": return x.go(a[0], a[1]);
      case "light": return x.light(a[0], a[1]);
      case "steps": return x.steps(a[0], a[1]);
      case "lights": return x.lights(a[0], a[1]);
      case "shown": return x.shown(a[0], a[1], a[2]);
      case "seen": return x.seen(a[0]);
      case "by": return x.by(a[0], a[1]);
      case "unlit": return x.unlit(a[0], a[1], a[2]);
      case "forget": return x.forget(a[0], a[1]);
      case "knows": return x.knows(a[0], a[1], a[2]);
      case "known": return x.known(a[0]);
      case "allKnow": return x.allKnow();
      case "whereAt": return x.whereAt(a[0], a[1], a[2]);
      case "next": return x.next(a[0], a[1]);
      case "fewest": return x.fewest();
      case "oneMore": return x.oneMore(a[0], a[1]);
      case "two": return x.two(a[0], a[1]);
      case "swap": return x.swap(a[0], a[1]);
      case "row": return x.row(a[0]);
      case "judge": return x.judge(a[0]);
      case "caught": return x.caught(a[0]);
      case "lots": return x.lots(a[0], a[1], a[2]);
      case "image": return x.image();
      case "on": return x.on();
      case "count": return x.count(a[0]);
      default: throw new IllegalArgumentException("no call is named " + name);
    }
  }
}
