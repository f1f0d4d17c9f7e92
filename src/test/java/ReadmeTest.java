import java.io.IOException;
import java.lang.reflect.Method;
import java.lang.reflect.Modifier;
import java.nio.file.Files;
import java.nio.file.Path;
import java.util.Arrays;
import java.util.HashMap;
import java.util.HashSet;
import java.util.Map;
import java.util.Set;
import java.util.regex.Matcher;
import java.util.regex.Pattern;

/** README.md's examples, line by line, and that it names each call and each refusal. */
public final class ReadmeTest {
  private static final Checks C = new Checks("ReadmeTest");
  private static final Pattern BLOCK = Pattern.compile("(?s)```java\n(.*?)```");
  private static final Pattern MADE = Pattern.compile("LampsThatRemember (\\w) = new LampsThatRemember\\(\\);");
  private static final Pattern LETTERS = Pattern.compile("for \\(char c : \"([^\"]*)\"\\.toCharArray\\(\\)\\) \\{");
  private static final Pattern LETTER = Pattern.compile("(\\w)\\.letter\\(c\\); +// 1, 2, .*");
  private static final Pattern CALL = Pattern.compile("(\\w)\\.(\\w+)\\(([-\\d, ]*)\\); +// (-?\\d+): .*");

  private final Map<String, LampsThatRemember> objects = new HashMap<>();
  private final Set<Integer> answers = new HashSet<>();
  private String letters = "";
  private int calls;

  public static void main(String[] args) throws IOException {
    String page = Files.readString(Path.of("README.md"));
    ReadmeTest test = new ReadmeTest();
    Matcher block = BLOCK.matcher(page);
    while (block.find()) {
      block.group(1).lines().map(String::strip).filter(line -> !line.equals("}")).forEach(test::line);
    }
    C.holds("the page has examples, not only " + test.calls, test.calls >= 15);
    for (int refusal : new int[] {-1, -2, -3, -4, -6}) {
      C.holds("an example is refused with " + refusal, test.answers.contains(refusal));
      C.holds("the page tells what " + refusal + " means", page.contains("\n| " + refusal + " | "));
    }
    everyCallIsNamed(page);
    C.holds("the page says how the tests are run", page.contains("\n    bash .ci/run\n"));
    C.end();
  }

  private void line(String line) {
    Matcher made = MADE.matcher(line);
    Matcher told = LETTERS.matcher(line);
    Matcher letter = LETTER.matcher(line);
    Matcher call = CALL.matcher(line);
    if (made.matches()) {
      objects.put(made.group(1), new LampsThatRemember());
    } else if (told.matches()) {
      letters = told.group(1);
    } else if (letter.matches()) {
      for (int i = 0; i < letters.length(); i++) {
        C.due(line, objects.get(letter.group(1)).letter(letters.charAt(i)), i + 1);
      }
    } else if (call.matches()) {
      int answer = Calls.answer(objects.get(call.group(1)), call.group(2), numbers(call.group(3)));
      C.due(line, answer, Integer.parseInt(call.group(4)));
      answers.add(answer);
      calls++;
    } else {
      C.holds("a line that can be looked at: " + line, false);
    }
  }

  private static int[] numbers(String text) {
    return text.isBlank() ? new int[0] : Arrays.stream(text.split(", ")).mapToInt(Integer::parseInt).toArray();
  }

  private static void everyCallIsNamed(String page) {
    for (Method m : LampsThatRemember.class.getDeclaredMethods()) {
      if (Modifier.isPublic(m.getModifiers())) {
        String names = m.getParameterCount() == 0 ? "" : "\\w+" + ", \\w+".repeat(m.getParameterCount() - 1);
        Pattern named = Pattern.compile("`" + m.getName() + "\\(" + names + "\\)`");
        C.holds("the page names " + m.getName() + " with its " + m.getParameterCount(), named.matcher(page).find());
      }
    }
  }
}
