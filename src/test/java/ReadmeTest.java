import java.lang.reflect.Method;
import java.nio.charset.StandardCharsets;
import java.nio.file.Files;
import java.nio.file.Path;
import java.util.Set;
import java.util.TreeSet;
import java.util.regex.Matcher;
import java.util.regex.Pattern;

/** The calls that README.md shows, on one object in their order, against the answers that it tells there. */
public final class ReadmeTest {
  private static final Pattern CALL = Pattern.compile("x\\.(\\w+)\\(([^)]*)\\);\\s*// (-?\\d+)\\b.*");
  private static int wrong = 0;

  public static void main(String[] args) throws Exception {
    Path root = Path.of(args.length > 0 ? args[0] : ".");
    String page = Files.readString(root.resolve("README.md"), StandardCharsets.UTF_8);
    calls(page);
    everyCallHasAnAnswer(page);
    findings(page);
    System.out.println(wrong == 0 ? "ReadmeTest: all as due" : "ReadmeTest: " + wrong + " wrong");
    if (wrong != 0) {
      System.exit(1);
    }
  }

  private static void due(boolean is, String what) {
    if (!is) {
      wrong++;
      System.out.println(what);
    }
  }

  private static void calls(String page) throws Exception {
    PeaSpoons x = new PeaSpoons();
    int made = 0;
    for (String line : page.split("\n")) {
      Matcher m = CALL.matcher(line);
      if (m.matches()) {
        int got = call(x, m.group(1), m.group(2));
        due(got == Integer.parseInt(m.group(3)), "README.md: " + line + " answers " + got);
        made++;
      } else {
        due(!line.startsWith("x."), "README.md: a call without an answer: " + line);
      }
    }
    due(made >= 10, "README.md shows " + made + " calls");
  }

  private static int call(PeaSpoons x, String name, String told) throws Exception {
    String[] words = told.isBlank() ? new String[0] : told.split("\\s*,\\s*");
    Object[] values = new Object[words.length];
    Class<?>[] types = new Class<?>[words.length];
    for (int i = 0; i < words.length; i++) {
      values[i] = Integer.decode(words[i]);
      types[i] = int.class;
    }
    return (Integer) PeaSpoons.class.getMethod(name, types).invoke(x, values);
  }

  /** Each method of the face stands once in the first column of the table of answers. */
  private static void everyCallHasAnAnswer(String page) {
    Set<String> told = new TreeSet<>();
    int from = page.indexOf("### Answers");
    int to = page.indexOf("### Findings");
    due(from >= 0 && to > from, "README.md has no table of answers");
    Matcher rows = Pattern.compile("(?m)^\\| ((`\\w+` ?)+) \\|").matcher(page.substring(from, to));
    while (rows.find()) {
      for (String name : rows.group(1).replace("`", "").split(" ")) {
        due(told.add(name), "README.md tells the answer of " + name + " twice");
      }
    }
    Set<String> built = new TreeSet<>();
    for (Method method : PeaSpoons.class.getMethods()) {
      if (method.getDeclaringClass() == PeaSpoons.class) {
        built.add(method.getName());
      }
    }
    due(told.equals(built), "README.md tells answers of " + told + ", the face is " + built);
  }

  private static void findings(String page) {
    String[] names = {"BEYOND", "FULL", "KIND", "NONE", "STATE", "MISSING", "SIZE"};
    for (int i = 0; i < names.length; i++) {
      String row = "| " + names[i] + " | " + (-1000001 - i) + " | `status(" + i + ")` |";
      due(page.contains(row), "README.md has no row " + row);
    }
  }
}
