import java.lang.reflect.InvocationTargetException;
import java.lang.reflect.Method;
import java.util.Arrays;
import java.util.Comparator;

/**
 * What the edge tests share. A test is a static method named after its promise, or after the terms
 * or the numbered paragraph ahead of the promises that it holds to account.
 */
final class Edges {
  static final int BEYOND = -1000001;
  static final int FULL = -1000002;
  static final int KIND = -1000003;
  static final int NONE = -1000004;
  static final int STATE = -1000005;
  static final int MISSING = -1000006;
  static final int SIZE = -1000007;

  static final int TASTE = 0;
  static final int LICKED = 1;
  static final int PRESSED = 2;
  static final int PAID = 3;
  static final int COPIED = 4;
  static final int GROWN = 5;
  static final int HIDDEN = 6;

  static final int LEAST = Integer.MIN_VALUE;
  static final int MOST = Integer.MAX_VALUE;

  /** Makes the same object each time, so that one can be touched and another not. */
  interface Scene {
    PeaSpoons made();
  }

  interface Call {
    int on(PeaSpoons x);
  }

  private static String test = "";
  private static int wrong = 0;

  private Edges() {
  }

  static void run(Class<?> tests) throws Exception {
    Method[] methods = tests.getDeclaredMethods();
    Arrays.sort(methods, Comparator.comparing(Method::getName));
    int number = 0;
    for (Method method : methods) {
      if (method.getName().matches("(promise\\d\\d|paragraph\\d|terms)[A-Z]\\w*")) {
        test = method.getName();
        number++;
        runOne(method);
      }
    }
    boolean isFine = wrong == 0 && number > 0;
    System.out.println(tests.getName() + ": " + (isFine ? number + " tests, all as due" : wrong + " wrong"));
    if (!isFine) {
      System.exit(1);
    }
  }

  private static void runOne(Method method) throws Exception {
    try {
      method.invoke(null);
    } catch (InvocationTargetException e) {
      wrong++;
      System.out.println(test + " threw " + e.getCause());
    }
  }

  static void due(String what, long got, long want) {
    if (got != want) {
      wrong++;
      System.out.println(test + ": " + what + " answered " + got + ", due is " + want);
    }
  }

  static void due(String what, String got, String want) {
    if (!got.equals(want)) {
      wrong++;
      System.out.println(test + ": " + what + "\n  is  " + got + "\n  due " + want);
    }
  }

  static void refused(String what, Call call, int finding) {
    refused(what, Edges::rich, call, finding);
  }

  /** The call answers its finding, status() counts it once, and nothing else is another one. */
  static void refused(String what, Scene scene, Call call, int finding) {
    PeaSpoons touched = scene.made();
    int[] before = statuses(touched);
    due(what, call.on(touched), finding);
    int[] after = statuses(touched);
    for (int which = 0; which < 7; which++) {
      int more = BEYOND - finding == which ? 1 : 0;
      due(what + ", then status(" + which + ")", after[which], before[which] + more);
    }
    due(what + ", then status(-1)", after[7], before[7] + 1);
    due(what + ", then all but status()", everything(touched), everything(scene.made()));
  }

  static void asked(String what, Call call, int want) {
    asked(what, Edges::rich, call, want);
  }

  /** The call answers what is due and changes nothing at all. */
  static void asked(String what, Scene scene, Call call, int want) {
    PeaSpoons touched = scene.made();
    PeaSpoons untouched = scene.made();
    due(what, call.on(touched), want);
    due(what + ", then status()", Arrays.toString(statuses(touched)), Arrays.toString(statuses(untouched)));
    due(what + ", then all", everything(touched), everything(untouched));
  }

  /** By finding, and all together behind them. */
  static int[] statuses(PeaSpoons x) {
    int[] all = new int[8];
    for (int which = 0; which < 7; which++) {
      all[which] = x.status(which);
    }
    all[7] = x.status(-1);
    return all;
  }

  /** What can be asked without a change: of the foods, the child, the plan, the meals, z, the spots. */
  static String present(PeaSpoons x) {
    StringBuilder all = new StringBuilder("foods");
    for (int food = 0; food < 10; food++) {
      all.append(' ').append(x.foodOf(food, 0)).append('/').append(x.foodOf(food, 1));
      all.append('/').append(x.foodOf(food, 2));
    }
    all.append(" now");
    for (int what = 0; what < 8; what++) {
      all.append(' ').append(x.now(what));
    }
    all.append(" plan");
    int tastes = x.count(0);
    for (int taste = 0; taste < tastes; taste++) {
      all.append(' ').append(x.tasteOf(taste, 0)).append('/').append(x.tasteOf(taste, 1));
      all.append('/').append(x.tasteOf(taste, 2));
    }
    all.append(" book");
    int meals = x.now(9);
    for (int i = 0; i < meals; i++) {
      all.append(' ').append(x.book(i));
    }
    all.append(" z ").append(x.count(4)).append(" spots");
    for (int spot = 0; spot < 10; spot++) {
      all.append(' ').append(x.as(spot, TASTE));
    }
    return all.toString();
  }

  /** All that an object holds but status(); the object is used up by the asking. */
  static String everything(PeaSpoons x) {
    StringBuilder all = new StringBuilder(present(x));
    all.append("\n  tape ").append(x.count(3));
    int items = x.text();
    all.append(" text ").append(items);
    if (items >= 0) {
      all.append(' ').append(present(x));
    }
    for (int s = 0; s < 4; s++) {
      all.append("\n  sheet ").append(s).append(' ').append(sheetOf(x, s));
    }
    int meal = x.undo();
    all.append("\n  kept ").append(meal);
    if (meal >= 0) {
      all.append(' ').append(present(x));
    }
    return all.toString();
  }

  /** Numbers and bits of a sheet, a number that is no like as a sign; the sheet and the likes are used up. */
  static String sheetOf(PeaSpoons x, int s) {
    if (x.load(s) == MISSING) {
      return "missing";
    }
    int size = sizeOf(x, s);
    StringBuilder all = new StringBuilder().append(size).append(':');
    int left = size;
    while (left > 0) {
      int came = Math.min(left, x.load(s));
      for (int food = 0; food < came; food++) {
        all.append(' ').append(x.foodOf(food, 0));
      }
      all.append(came < Math.min(left, 10) ? " ?" : "");
      int told = came < Math.min(left, 10) ? came + 1 : came;
      left -= told;
      x.copy(s, told, s, 0, left);
    }
    return all.append(size > 0 ? " of " + bitsOf(x, s) + " bits" : "").toString();
  }

  private static int sizeOf(PeaSpoons x, int s) {
    int low = 0;
    int top = 41;
    while (top - low > 1) {
      int middle = (low + top) / 2;
      if (x.copy(s, 0, s, 0, middle) == middle) {
        low = middle;
      } else {
        top = middle;
      }
    }
    return low;
  }

  /** 256 and 5 is a like in 8 bits alone, 65536 and 5 in 8 and 16. */
  private static int bitsOf(PeaSpoons x, int s) {
    x.write(s, 0, 256 + 5);
    if (x.load(s) > 0) {
      return 8;
    }
    x.write(s, 0, 65536 + 5);
    return x.load(s) > 0 ? 16 : 32;
  }

  /** An object that holds something everywhere, with a tape that is a text and an image of an earlier time. */
  static PeaSpoons rich() {
    PeaSpoons x = new PeaSpoons();
    tell(x, "food 1 like 33 bitter 2;food 9 like 50;bent 4;hunger 50;weight 77;line 45;pudding 2;friend 1 9");
    tell(x, "taste 0;licked 1 put 1");
    x.meals(3);
    x.hold(2, 1);
    x.image();
    tell(x, "pressed 2 put 20;paid 3;copied 4;grown 5;hidden 6 put 9;line 48");
    x.meals(6);
    x.hold(0, 0);
    x.hold(4, 3);
    x.hold(9, 6);
    x.sheet(0, 8, 4);
    x.write(0, 0, 12);
    x.write(0, 3, 98);
    x.sheet(1, 16, 3);
    x.write(1, 1, 7);
    x.sheet(2, 32, 0);
    x.seed(77);
    feed(x, "line 88");
    return x;
  }

  /** An object with as much of everything as there may be, and nothing kept. */
  static PeaSpoons full() {
    PeaSpoons x = new PeaSpoons();
    for (int i = 0; i < 10; i++) {
      x.taste(i % 7, i, 2 * i + 1);
    }
    x.meals(36);
    for (int spot = 0; spot < 10; spot++) {
      x.hold(spot, 9 - spot);
    }
    for (int s = 0; s < 4; s++) {
      x.sheet(s, s == 3 ? 16 : 8 << s, 40);
      x.write(s, 39, 30 + s);
    }
    feed(x, " ".repeat(119) + "x");
    return x;
  }

  static void feed(PeaSpoons x, String text) {
    for (int i = 0; i < text.length(); i += 4) {
      int n = Math.min(4, text.length() - i);
      int bytes = 0;
      for (int k = 0; k < n; k++) {
        bytes = (bytes << 8) | text.charAt(i + k);
      }
      x.feed(bytes, n);
    }
  }

  static int tell(PeaSpoons x, String text) {
    feed(x, text);
    return x.text();
  }

  /** The z that a draw makes: 32 bits of the whole product. */
  static int nextZ(int z) {
    return (int) ((z * 1103515245L + 12345L) & 0xffffffffL);
  }

  /** The rest by 10 of what a draw gives that makes this z. */
  static int rest(int z) {
    return (int) (((z & 0xffffffffL) >> 8) % 10);
  }

  /** The least z above 0 whose next draw has this rest. */
  static int seedWithRest(int rest) {
    int seed = 1;
    while (rest(nextZ(seed)) != rest) {
      seed++;
    }
    return seed;
  }

  /**
   * One meal of so many spoons by taste 0, which is of food 0 without bitter: as a hidden one that isn't
   * found (the rest of the first draw of z 1 is 4), or as a licked one.
   */
  static void serve(PeaSpoons x, int spoons) {
    x.change(0, 0, spoons > 0 ? HIDDEN : LICKED);
    if (spoons > 0) {
      x.change(0, 2, spoons);
      x.seed(1);
    }
    due("a meal of " + spoons, x.meals(1), spoons);
  }

  static PeaSpoons served(int... spoons) {
    PeaSpoons x = new PeaSpoons();
    x.taste(LICKED, 0, 1);
    for (int n : spoons) {
      serve(x, n);
    }
    return x;
  }

  /** A single taste of food 0 that always brings so many spoons (0, 2 or 5) and leaves a like of 0. */
  static PeaSpoons steady(int spoons) {
    PeaSpoons x = new PeaSpoons();
    x.food(0, 0, 0);
    x.food(0, 1, 9);
    x.child(0, 9);
    x.taste(spoons == 0 ? LICKED : spoons == 2 ? PRESSED : PAID, 0, 20);
    return x;
  }

  static void goOn(PeaSpoons x, int meals) {
    for (int left = meals; left > 0; left -= 70) {
      x.meals(Math.min(left, 70));
    }
  }

  /**
   * One licked taste, at a meal that 512 calls don't reach: what is answered there is free, but nothing
   * else shows the finding STATE.
   */
  static PeaSpoons late(int meal) {
    PeaSpoons x = new PeaSpoons();
    x.taste(LICKED, 0, 1);
    goOn(x, meal);
    x.food(0, 0, 20);
    return x;
  }
}
