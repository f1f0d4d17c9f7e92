import com.sun.management.ThreadMXBean;
import java.io.IOException;
import java.lang.management.ManagementFactory;
import java.lang.reflect.Field;
import java.lang.reflect.Method;
import java.lang.reflect.Modifier;
import java.nio.file.Files;
import java.nio.file.Path;
import java.util.ArrayList;
import java.util.Arrays;
import java.util.HashSet;
import java.util.List;
import java.util.Random;
import java.util.Set;
import java.util.TreeSet;
import java.util.regex.Matcher;
import java.util.regex.Pattern;

/** The rules of LANGUAGE.md that can be looked at from outside, and that no call ever throws. */
public final class LanguageTest {
  private static final Checks C = new Checks("LanguageTest");
  private static final String SOURCE = "src/main/java/LampsThatRemember.java";
  private static final String[] FACE = {
    "letter(1)", "town(0)", "lamp(2)", "wall(1)", "person(1)", "where(1)", "go(2)", "light(2)", "steps(2)", "lights(2)",
    "shown(3)", "seen(1)", "by(2)", "unlit(3)", "forget(2)", "knows(3)", "known(1)", "allKnow(0)", "whereAt(3)",
    "next(2)", "fewest(0)", "oneMore(2)", "two(2)", "swap(2)", "row(1)", "judge(1)", "caught(1)", "lots(3)", "image(0)",
    "on(0)", "count(1)"
  };
  private static final Set<String> LIBRARY = Set.of(
      "Math.min", "Math.max", "Math.abs", "Long.bitCount", "Integer.bitCount");

  public static void main(String[] args) throws IOException, ReflectiveOperationException {
    theFace();
    theFields();
    theSource();
    theMethods();
    theRoom();
    anyNumbers();
    C.end();
  }

  private static List<Class<?>> classes() {
    List<Class<?>> all = new ArrayList<>(List.of(LampsThatRemember.class.getDeclaredClasses()));
    all.add(LampsThatRemember.class);
    return all;
  }

  private static void theFace() {
    Set<String> due = new TreeSet<>(List.of(FACE));
    Set<String> is = new TreeSet<>();
    Set<String> names = new HashSet<>();
    for (Method m : LampsThatRemember.class.getDeclaredMethods()) {
      if (Modifier.isPrivate(m.getModifiers()) || m.isSynthetic()) {
        continue;
      }
      is.add(m.getName() + "(" + m.getParameterCount() + ")");
      names.add(m.getName());
      C.holds(m + " is public and of an object", Modifier.isPublic(m.getModifiers()) && !Modifier.isStatic(m.getModifiers()));
      C.holds(m + " answers int", m.getReturnType() == int.class);
      C.holds(m + " takes int", Arrays.stream(m.getParameterTypes()).allMatch(t -> t == int.class));
    }
    C.holds("the methods are those of the document: " + is, due.equals(is));
    for (Class<?> c : classes()) {
      for (Method m : c.getDeclaredMethods()) {
        C.holds("no other bears the name of a public one: " + m, c == LampsThatRemember.class && Modifier.isPublic(m.getModifiers()) || !names.contains(m.getName()));
      }
    }
    C.holds("public and final", Modifier.isPublic(LampsThatRemember.class.getModifiers()) && Modifier.isFinal(LampsThatRemember.class.getModifiers()));
    C.due("public constructors", LampsThatRemember.class.getConstructors().length, 1);
    C.due("constructors", LampsThatRemember.class.getDeclaredConstructors().length, 1);
    C.holds("some twelve classes", classes().size() <= 12);
  }

  private static void theFields() {
    for (Class<?> c : classes()) {
      C.holds(c + " is static or the one", c == LampsThatRemember.class || Modifier.isStatic(c.getModifiers()) && !Modifier.isPublic(c.getModifiers()) && !Modifier.isProtected(c.getModifiers()));
      int fields = 0;
      for (Field f : c.getDeclaredFields()) {
        if (Modifier.isStatic(f.getModifiers())) {
          boolean plain = f.getType().isPrimitive() || f.getType() == String.class;
          C.holds("a constant: " + f, Modifier.isFinal(f.getModifiers()) && plain);
        } else {
          fields++;
        }
        C.holds("private, or inside: " + f, c != LampsThatRemember.class || Modifier.isPrivate(f.getModifiers()));
      }
      C.holds(c + " has some twenty fields at most", fields <= 20);
    }
  }

  private static void theSource() throws IOException {
    String all = Files.readString(Path.of(SOURCE));
    C.holds("signs 1 to 127", all.chars().allMatch(c -> c > 0 && c < 128));
    String code = all.replaceAll("(?s)/\\*.*?\\*/", " ").replaceAll("//[^\n]*", " ").replaceAll("\"[^\"\n]*\"", "T");
    String[] none = {
      "\\bthrow\\b", "\\btry\\b", "\\bcatch\\b", "\\bsynchronized\\b", "\\bassert\\b", "\\bimport\\b", "\\bpackage\\b",
      "->", "::", "@", "\\bequals\\b", "\\bhashCode\\b", "\\btoString\\b", "Exact\\b", "\\bthrows\\b", "\\bfloat\\b",
      "\\bdouble\\b", "\\bvar\\b", "\\bwhile\\s*\\(\\s*true", "for\\s*\\(\\s*;\\s*;", "T\\s*\\+|\\+\\s*T", "\\?\\s*>"
    };
    for (String one : none) {
      C.holds("the source has no " + one, !Pattern.compile(one).matcher(code).find());
    }
    Matcher m = Pattern.compile("\\b(Math|Long|Integer|String|System|Arrays|Character|Object|Thread|Runtime)\\s*\\.\\s*(\\w+)").matcher(code);
    while (m.find()) {
      C.holds("of the library: " + m.group(), LIBRARY.contains(m.group(1) + "." + m.group(2)));
    }
  }

  /** Methods begin with two or four blanks, and end with a brace as far in. */
  private static void theMethods() throws IOException {
    List<String> lines = Files.readAllLines(Path.of(SOURCE));
    int found = 0;
    Pattern head = Pattern.compile("^( {2}| {4})(?! )[\\w\\[\\] ]+\\(([^)]*)\\) \\{$");
    for (int i = 0; i < lines.size(); i++) {
      Matcher m = head.matcher(lines.get(i));
      if (!m.matches() || lines.get(i).matches(" +(if|for|while|switch|do|else).*")) {
        continue;
      }
      found++;
      int end = i;
      while (!lines.get(end).equals(m.group(1) + "}")) {
        end++;
      }
      C.holds("a short method: " + lines.get(i), end - i <= 60);
      C.holds("seven parameters: " + lines.get(i), m.group(2).split(",").length <= 7);
    }
    C.holds("all methods were looked at, but only " + found + " are", found > 100);
  }

  /** The dearest calls, 512 times, stay far below the room that all calls of a run have. */
  private static void theRoom() {
    ThreadMXBean bean = (ThreadMXBean) ManagementFactory.getThreadMXBean();
    LampsThatRemember x = new LampsThatRemember();
    Checks.tell(x, "lf145;lf145;lf145;lf145;lf145;lf145;p00;g035;");
    long before = bean.getCurrentThreadAllocatedBytes();
    for (int i = 0; i < 128; i++) {
      x.image();
      x.on();
      x.letter('x');
      x.town();
    }
    long bytes = bean.getCurrentThreadAllocatedBytes() - before;
    C.holds("512 of the dearest calls take " + bytes + " bytes", bytes < 1 << 20);
    before = bean.getCurrentThreadAllocatedBytes();
    for (int i = 0; i < 100; i++) {
      x.go(0, i % 2 == 0 ? 0 : 35);
      x.fewest();
      x.allKnow();
      x.whereAt(0, x.count(3), -1);
      x.lots(0, 20, i);
    }
    bytes = bean.getCurrentThreadAllocatedBytes() - before;
    C.holds("other calls make nothing, but took " + bytes + " bytes", bytes < 1 << 12);
  }

  /** Any numbers in any state: a call that throws ends the test. */
  private static void anyNumbers() throws ReflectiveOperationException {
    Random lot = new Random(7);
    List<Method> methods = new ArrayList<>(List.of(LampsThatRemember.class.getDeclaredMethods()));
    methods.removeIf(m -> !Modifier.isPublic(m.getModifiers()));
    methods.sort((a, b) -> a.getName().compareTo(b.getName()));
    for (int run = 0; run < 300; run++) {
      LampsThatRemember x = new LampsThatRemember();
      if (run % 3 > 0) {
        Checks.tell(x, "lf145;lc005;ll213;lk351;lm000;lo145;p00;p35;w07;g034;");
      }
      for (int call = 0; call < 512; call++) {
        Method m = methods.get(lot.nextInt(methods.size()));
        Object[] a = new Object[m.getParameterCount()];
        for (int i = 0; i < a.length; i++) {
          a[i] = lot.nextInt(3) == 0 ? lot.nextInt() : lot.nextInt(2) == 0 ? lot.nextInt(6) : lot.nextInt(120) - 20;
        }
        m.invoke(x, a);
      }
    }
  }
}
