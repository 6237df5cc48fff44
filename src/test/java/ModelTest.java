import java.lang.reflect.InvocationTargetException;
import java.lang.reflect.Method;
import java.lang.reflect.Modifier;
import java.util.ArrayList;
import java.util.Arrays;
import java.util.Comparator;
import java.util.List;
import java.util.Random;

/** Long runs of calls with the answers of the model; the same runs each time. */
public final class ModelTest {
  private static final int RUNS = 1500;
  private static final int CALLS = 512;
  private static final String[] OFTEN = {"meals", "taste", "taste", "food", "change", "swap", "hold", "as",
      "write", "copy", "sheet", "text", "text", "text", "status", "count", "tasteOf", "child", "friend",
      "pudding", "kindFor", "order", "chance", "judge", "load", "day", "worry", "times", "when"};
  private static final String[] WORDS = {"food", "like", "bitter", "bent", "hunger", "weight", "line", "pudding",
      "friend", "taste", "licked", "pressed", "paid", "copied", "grown", "hidden", "put", ";", "x", "?"};

  private static int wrong = 0;

  public static void main(String[] args) throws Exception {
    List<Method> calls = new ArrayList<>();
    for (Method m : PeaSpoons.class.getDeclaredMethods()) {
      if (Modifier.isPublic(m.getModifiers())) {
        calls.add(m);
      }
    }
    calls.sort(Comparator.comparing(Method::getName));
    for (int run = 0; run < RUNS && wrong < 5; run++) {
      run(run, calls);
    }
    System.out.println(wrong == 0 ? "ModelTest: all as due" : "ModelTest: " + wrong + " wrong");
    if (wrong != 0) {
      System.exit(1);
    }
  }

  private static void run(int run, List<Method> calls) throws Exception {
    Random random = new Random(run);
    PeaSpoons x = new PeaSpoons();
    Model model = new Model();
    List<String> log = new ArrayList<>();
    boolean isWild = run % 5 == 0;
    for (int i = 0; i < CALLS; i++) {
      Method m = calls.get(random.nextInt(calls.size()));
      if (random.nextBoolean()) {
        String name = OFTEN[random.nextInt(OFTEN.length)];
        m = calls.stream().filter(c -> c.getName().equals(name)).findFirst().orElseThrow();
      }
      if (m.getName().equals("drop") && random.nextInt(3) > 0) {
        continue;
      }
      if (m.getName().equals("text") && random.nextInt(4) > 0) {
        i += feedText(random, x, model);
      }
      int[] a = arguments(random, m, model, isWild);
      int got = answer(x, m, a);
      int want = model.call(m.getName(), a);
      log.add(m.getName() + Arrays.toString(a) + " " + got);
      if (got != want) {
        wrong++;
        System.out.println("run " + run + ": " + m.getName() + Arrays.toString(a) + " answered " + got
            + ", due is " + want + "; ahead of it: " + log.subList(Math.max(0, log.size() - 10), log.size()));
        return;
      }
    }
  }

  private static int answer(PeaSpoons x, Method m, int[] a) throws Exception {
    Object[] boxed = new Object[a.length];
    for (int k = 0; k < a.length; k++) {
      boxed[k] = a[k];
    }
    try {
      return (Integer) m.invoke(x, boxed);
    } catch (InvocationTargetException e) {
      System.out.println(m.getName() + Arrays.toString(a) + " threw " + e.getCause());
      return Integer.MIN_VALUE;
    }
  }

  /** The bounds of each argument; one beyond them is called now and then. */
  private static int[][] bounds(String name, Model model) {
    int taste = Math.max(0, model.w.plan.size() - 1);
    switch (name) {
      case "food": return new int[][] {{0, 9}, {0, 1}, {0, 99}};
      case "foodOf": return new int[][] {{0, 9}, {0, 3}};
      case "child": return new int[][] {{0, 3}, {1, 99}};
      case "pudding": return new int[][] {{-1, 9}};
      case "friend": return new int[][] {{0, 1023}};
      case "taste": return new int[][] {{0, 6}, {0, 9}, {1, 20}};
      case "tasteOf": return new int[][] {{0, taste}, {0, 4}};
      case "change": return new int[][] {{0, taste}, {0, 2}, {0, 20}};
      case "swap": return new int[][] {{0, taste}, {0, taste}};
      case "meals": return new int[][] {{1, 70}};
      case "now": return new int[][] {{0, 10}};
      case "book": return new int[][] {{0, 34}};
      case "day": return new int[][] {{0, 7}};
      case "ahead": return new int[][] {{0, 350}, {0, 13}};
      case "when": return new int[][] {{0, 9}};
      case "times": return new int[][] {{0, taste}};
      case "kindFor":
      case "foodFor":
      case "putFor": return new int[][] {{0, taste}, {1, 175}};
      case "paid": return new int[][] {{0, 175}};
      case "order": return new int[][] {{1, 70}};
      case "chance": return new int[][] {{0, 9}, {1, 20}, {0, 70}};
      case "seed": return new int[][] {{Integer.MIN_VALUE / 4, Integer.MAX_VALUE / 4}};
      case "feed": return new int[][] {{' ', 'z'}, {1, 4}};
      case "hold": return new int[][] {{0, 9}, {-1, taste}};
      case "as": return new int[][] {{0, 9}, {0, 6}};
      case "sheet": return new int[][] {{0, 3}, {0, 32}, {0, 40}};
      case "write": return new int[][] {{0, 3}, {0, 20}, {-1, 20}};
      case "copy": return new int[][] {{0, 3}, {0, 12}, {0, 3}, {0, 12}, {0, 12}};
      case "load":
      case "judge": return new int[][] {{0, 3}};
      case "count": return new int[][] {{0, 5}};
      case "status": return new int[][] {{-1, 6}};
      default: return new int[0][];
    }
  }

  private static int[] arguments(Random random, Method m, Model model, boolean isWild) {
    int[][] bounds = bounds(m.getName(), model);
    if (bounds.length != m.getParameterCount()) {
      throw new IllegalStateException("no bounds for " + m.getName());
    }
    int[] a = new int[bounds.length];
    for (int k = 0; k < a.length; k++) {
      int low = bounds[k][0];
      int top = bounds[k][1];
      switch (random.nextInt(isWild ? 12 : 40)) {
        case 0: a[k] = low - 1; break;
        case 1: a[k] = top + 1; break;
        case 2: a[k] = isWild ? random.nextInt() : low; break;
        case 3: a[k] = isWild ? random.nextBoolean() ? Integer.MIN_VALUE : Integer.MAX_VALUE : top; break;
        default: a[k] = low + random.nextInt(top - low + 1); break;
      }
    }
    if (m.getName().equals("sheet") && random.nextInt(20) > 0) {
      a[1] = new int[] {0, 8, 8, 16, 16, 32, 32}[random.nextInt(7)];
    }
    if (m.getName().equals("write") && random.nextInt(4) == 0) {
      a[2] = random.nextInt();
    }
    if (m.getName().equals("write") && random.nextInt(2) == 0) {
      a[1] = aheadOfSheet(random, model, a);
    }
    if (m.getName().equals("food") && a[1] == 1 && random.nextInt(8) > 0) {
      a[2] = Math.floorMod(a[2], 10);
    }
    return a;
  }

  /** Now and then the number that is due there is written, so that judge() goes on. */
  private static int aheadOfSheet(Random random, Model model, int[] a) {
    if (a[0] < 0 || a[0] > 3 || model.sheets[a[0]] == null) {
      return a[1];
    }
    Model.World w = model.w.twin();
    for (int i = 0; i < model.sheets[a[0]].length; i++) {
      int spoons = w.serve();
      if (model.sheets[a[0]][i] != spoons) {
        a[2] = spoons;
        return i;
      }
    }
    return a[1];
  }

  private static int feedText(Random random, PeaSpoons x, Model model) {
    x.wipe();
    model.call("wipe", new int[0]);
    String text = random.nextInt(6) == 0 ? babble(random) : grammar(random);
    if (random.nextInt(4) == 0 && !text.isEmpty()) {
      int at = random.nextInt(text.length());
      char sign = " ;@a5Z9\u00ff\t".charAt(random.nextInt(9));
      text = text.substring(0, at) + (random.nextBoolean() ? "" : sign) + text.substring(at + random.nextInt(2));
    }
    text = text.substring(0, Math.min(120, text.length()));
    int calls = 1;
    for (int i = 0; i < text.length(); calls++) {
      int n = Math.min(4, text.length() - i);
      int bytes = random.nextInt();
      for (int k = 0; k < n; k++) {
        bytes = (bytes << 8) | text.charAt(i + k);
      }
      i += n;
      int got = x.feed(bytes, n);
      int want = model.call("feed", new int[] {bytes, n});
      if (got != want) {
        wrong++;
        System.out.println("feed answered " + got + ", due is " + want);
      }
    }
    return calls;
  }

  private static String babble(Random random) {
    StringBuilder text = new StringBuilder();
    for (int i = random.nextInt(8); i > 0; i--) {
      text.append(random.nextBoolean() ? WORDS[random.nextInt(WORDS.length)] : "" + random.nextInt(25));
      text.append(random.nextInt(3) > 0 ? " " : "");
    }
    return text.toString();
  }

  private static String number(Random random, int low, int top) {
    int v = low + random.nextInt(top - low + 1);
    int odd = random.nextInt(60);
    v = odd == 0 ? top + 1 : odd == 1 && low > 0 ? low - 1 : odd == 2 ? low : odd == 3 ? top : v;
    String blank = random.nextInt(4) == 0 ? "" : random.nextInt(5) == 0 ? "   " : " ";
    return blank + (random.nextInt(12) == 0 ? "00000" : "") + v + (random.nextInt(4) == 0 ? "" : " ");
  }

  private static String grammar(Random random) {
    StringBuilder text = new StringBuilder();
    for (int i = random.nextInt(5); i >= 0; i--) {
      text.append(item(random)).append(i > 0 ? ";" : "");
    }
    return text.toString();
  }

  private static String item(Random random) {
    int part = random.nextInt(4);
    switch (random.nextInt(6)) {
      case 0: return "food" + number(random, 0, 9)
          + (random.nextBoolean() ? "like" + number(random, 0, 99) : "")
          + (random.nextBoolean() ? "bitter" + number(random, 0, 9) : "");
      case 1: return Model.PART_WORDS.get(part) + number(random, Model.PART_LOW[part], Model.PART_TOP[part]);
      case 2: return "pudding" + number(random, 0, 9);
      case 3: {
        StringBuilder friend = new StringBuilder("friend");
        for (int food = random.nextInt(4); food < 10; food += random.nextInt(12) == 0 ? 0 : 1 + random.nextInt(4)) {
          friend.append(' ').append(food);
        }
        return friend.toString();
      }
      default: return Model.KIND_WORDS.get(random.nextInt(7)) + number(random, 0, 9)
          + (random.nextBoolean() ? "put" + number(random, 1, 20) : "");
    }
  }
}
