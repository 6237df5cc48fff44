import java.lang.reflect.Constructor;
import java.lang.reflect.Field;
import java.lang.reflect.Method;
import java.lang.reflect.Modifier;
import java.nio.charset.StandardCharsets;
import java.nio.file.DirectoryStream;
import java.nio.file.Files;
import java.nio.file.Path;
import java.util.Arrays;
import java.util.Set;
import java.util.TreeSet;
import java.util.regex.Matcher;
import java.util.regex.Pattern;

/** The face, against the document's list, and those rules of LANGUAGE.md that a plain look can tell. */
public final class RulesTest {
  private static int wrong = 0;

  public static void main(String[] args) throws Exception {
    Path root = Path.of(args.length > 0 ? args[0] : ".");
    String document = read(root.resolve("../shared/DOC.md"));
    String source = read(root.resolve("src/main/java/PeaSpoons.java"));
    face(document);
    hiddenMembers();
    words(source);
    methodLengths(source);
    promisesHaveEdges(root);
    System.out.println(wrong == 0 ? "RulesTest: all as due" : "RulesTest: " + wrong + " wrong");
    if (wrong != 0) {
      System.exit(1);
    }
  }

  private static String read(Path path) throws Exception {
    return Files.readString(path, StandardCharsets.UTF_8);
  }

  private static void due(boolean is, String what) {
    if (!is) {
      wrong++;
      System.out.println(what);
    }
  }

  private static void face(String document) {
    Set<String> told = new TreeSet<>();
    Matcher m = Pattern.compile("    public int (\\w+)\\(([^)]*)\\);").matcher(document);
    while (m.find()) {
      int arguments = m.group(2).isEmpty() ? 0 : m.group(2).split(",").length;
      told.add(m.group(1) + " " + arguments);
    }
    due(told.size() == 43, "the document's methods are not found");
    Set<String> built = new TreeSet<>();
    for (Method method : PeaSpoons.class.getDeclaredMethods()) {
      if (Modifier.isPublic(method.getModifiers())) {
        built.add(method.getName() + " " + method.getParameterCount());
        due(method.getReturnType() == int.class, method.getName() + " doesn't answer an int");
        due(Arrays.stream(method.getParameterTypes()).allMatch(t -> t == int.class),
            method.getName() + " takes another type");
      }
    }
    due(told.equals(built), "the face is " + built + ", due is " + told);
    due(Modifier.isFinal(PeaSpoons.class.getModifiers()), "the class isn't final");
    Constructor<?>[] constructors = PeaSpoons.class.getDeclaredConstructors();
    due(constructors.length == 1 && Modifier.isPublic(constructors[0].getModifiers())
        && constructors[0].getParameterCount() == 0, "the constructor is another one");
  }

  private static void hiddenMembers() {
    Set<String> open = new TreeSet<>();
    for (Method method : PeaSpoons.class.getDeclaredMethods()) {
      if (Modifier.isPublic(method.getModifiers())) {
        open.add(method.getName());
      } else {
        due(Modifier.isPrivate(method.getModifiers()) || method.isSynthetic(), method + " is open");
      }
    }
    for (Field field : PeaSpoons.class.getDeclaredFields()) {
      due(Modifier.isPrivate(field.getModifiers()), field + " is open");
    }
    for (Class<?> inside : PeaSpoons.class.getDeclaredClasses()) {
      due(Modifier.isStatic(inside.getModifiers()), inside + " isn't static");
      int fields = 0;
      for (Field field : inside.getDeclaredFields()) {
        fields += Modifier.isStatic(field.getModifiers()) ? 0 : 1;
      }
      due(fields <= 20, inside + " has " + fields + " fields");
      for (Method method : inside.getDeclaredMethods()) {
        due(!open.contains(method.getName()) || method.isSynthetic(), method + " bears a name of the face");
        due(method.getParameterCount() <= 7, method + " takes too many");
      }
    }
    due(PeaSpoons.class.getDeclaredClasses().length <= 12, "too many classes");
  }

  private static void words(String source) {
    String code = source.replaceAll("(?s)/\\*.*?\\*/", " ").replaceAll("//[^\n]*", " ");
    String[] banned = {"throw", "throws", "try", "catch", "synchronized", "assert", "instanceof Object", "package",
        "protected", "System.out", "System.nanoTime", "System.currentTimeMillis", "Random", "Thread", "File",
        "hashCode", "toString", "getClass", "Exact", "var", "yield", "->", "::"};
    for (String word : banned) {
      String asWord = Character.isLetter(word.charAt(0)) ? "\\b" + Pattern.quote(word) + "\\b" : Pattern.quote(word);
      due(!Pattern.compile(asWord).matcher(code).find(), "the program has " + word);
    }
    Matcher imports = Pattern.compile("import ([^;]+);").matcher(code);
    while (imports.find()) {
      due(Set.of("java.util.Arrays", "java.util.ArrayList", "java.util.List", "java.util.Iterator")
          .contains(imports.group(1)), "the program takes " + imports.group(1));
    }
    for (int i = 0; i < source.length(); i++) {
      due(source.charAt(i) < 127, "another sign at " + i);
    }
  }

  /** Each promise's bounds have a test that bears its number. */
  private static void promisesHaveEdges(Path root) throws Exception {
    Set<String> tested = new TreeSet<>();
    try (DirectoryStream<Path> tests = Files.newDirectoryStream(root.resolve("src/test/java"), "*EdgeTest.java")) {
      for (Path test : tests) {
        Matcher m = Pattern.compile("  static void promise(\\d\\d)[A-Z]").matcher(read(test));
        while (m.find()) {
          tested.add(m.group(1));
        }
      }
    }
    for (int promise = 1; promise <= 44; promise++) {
      due(tested.contains(String.format("%02d", promise)), "no edge test of promise " + promise);
    }
  }

  /** A method ends at the first line that is its own indent and a brace. */
  private static void methodLengths(String source) {
    String[] lines = source.split("\n");
    for (int i = 0; i < lines.length; i++) {
      due(lines[i].length() <= 110, "line " + (i + 1) + " is long");
      Matcher head = Pattern.compile("( {2}| {4})[a-zA-Z][^;=]*\\(.*\\) \\{").matcher(lines[i]);
      if (head.matches()) {
        int end = i + 1;
        while (end < lines.length && !lines[end].equals(head.group(1) + "}")) {
          end++;
        }
        due(end - i < 60, "line " + (i + 1) + " begins a long method");
      }
    }
  }
}
