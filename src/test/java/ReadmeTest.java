import java.lang.reflect.Method;
import java.lang.reflect.Modifier;
import java.nio.file.Files;
import java.nio.file.Path;
import java.util.regex.Matcher;
import java.util.regex.Pattern;

// What README.md tells of the class: its calls, made in order on one object, answer so; and it names all calls.
public final class ReadmeTest {
  private static final Pattern TEXT = Pattern.compile("for \\(char c : \"([^\"]*)\"\\.toCharArray\\(\\)\\) mill\\.feed\\(c\\);");
  private static final Pattern CALL = Pattern.compile("mill\\.(\\w+)\\(([-0-9, ]*)\\); *// (-?[0-9]+).*");
  private static int wrong = 0;
  private static int asked = 0;

  private static void tell(String what) {
    wrong++;
    System.out.println("README.md: " + what);
  }

  private static long answer(UncookMill mill, String name, String numbers) throws Exception {
    String[] told = numbers.isEmpty() ? new String[0] : numbers.split(", ");
    Class<?>[] types = new Class<?>[told.length];
    Object[] arguments = new Object[told.length];
    for (int i = 0; i < told.length; i++) {
      types[i] = int.class;
      arguments[i] = Integer.valueOf(told[i]);
    }
    return ((Number) UncookMill.class.getMethod(name, types).invoke(mill, arguments)).longValue();
  }

  private static void runExample(String page) throws Exception {
    UncookMill mill = new UncookMill();
    for (String line : page.split("\n")) {
      Matcher text = TEXT.matcher(line);
      Matcher call = CALL.matcher(line);
      if (text.matches()) for (char c : text.group(1).toCharArray()) mill.feed(c);
      else if (call.matches()) {
        asked++;
        long got = answer(mill, call.group(1), call.group(2));
        if (got != Long.parseLong(call.group(3))) tell("'" + line + "' answered " + got);
      } else if (line.startsWith("mill.")) tell("'" + line + "' tells no answer");
    }
    if (asked == 0) tell("it has no example");
  }

  private static void findNames(String page) {
    for (Method m : UncookMill.class.getDeclaredMethods())
      if (Modifier.isPublic(m.getModifiers()) && !page.contains("`" + m.getName() + "`")) tell("no " + m.getName());
    if (!page.contains(".ci/run")) tell("it does not say how the tests are run");
  }

  public static void main(String[] args) throws Exception {
    String page = Files.readString(Path.of("README.md"));
    runExample(page);
    findNames(page);
    System.out.println("ReadmeTest: " + asked + " answers, " + wrong + " wrong");
    if (wrong != 0) System.exit(1);
  }
}
