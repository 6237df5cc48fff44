/** Each promise of the document by answers worked out by hand: ordinary, edges, wrong inputs. */
public final class PromiseTest {
  private static final int BEYOND = -1000001;
  private static final int FULL = -1000002;
  private static final int KIND = -1000003;
  private static final int NONE = -1000004;
  private static final int STATE = -1000005;
  private static final int MISSING = -1000006;
  private static final int SIZE = -1000007;

  private static final int TASTE = 0;
  private static final int LICKED = 1;
  private static final int PRESSED = 2;
  private static final int PAID = 3;
  private static final int COPIED = 4;
  private static final int GROWN = 5;
  private static final int HIDDEN = 6;

  private static int wrong = 0;
  private static String promise = "";

  public static void main(String[] args) {
    newObject();
    foods();
    child();
    pudding();
    friend();
    likedAndNext();
    taste();
    tasteOf();
    moves();
    change();
    swap();
    drop();
    meals();
    mealsOfKinds();
    mealsAtTheBounds();
    now();
    bookDaySpread();
    ahead();
    when();
    times();
    kindFor();
    foodFor();
    putFor();
    paid();
    worry();
    order();
    chance();
    seed();
    feedAndWipe();
    text();
    textFaults();
    textOfTastes();
    holdAndAs();
    sheet();
    write();
    copy();
    load();
    judge();
    imageUndoTear();
    count();
    status();
    lastMeals();
    System.out.println(wrong == 0 ? "PromiseTest: all as due" : "PromiseTest: " + wrong + " wrong");
    if (wrong != 0) {
      System.exit(1);
    }
  }

  private static void due(String what, long got, long want) {
    if (got != want) {
      wrong++;
      System.out.println("promise " + promise + ": " + what + " answered " + got + ", due is " + want);
    }
  }

  private static void due(String what, String got, String want) {
    if (!got.equals(want)) {
      wrong++;
      System.out.println("promise " + promise + ": " + what + " answered " + got + ", due is " + want);
    }
  }

  /** All that can be asked without a change but status(): 143 calls at most. */
  private static String seen(PeaSpoons x) {
    StringBuilder all = new StringBuilder();
    for (int food = 0; food < 10; food++) {
      for (int what = 0; what < 3; what++) {
        all.append(x.foodOf(food, what)).append(' ');
      }
    }
    for (int what = 0; what < 11; what++) {
      all.append(x.now(what)).append(' ');
    }
    for (int taste = 0; taste < x.count(0); taste++) {
      for (int what = 0; what < 3; what++) {
        all.append(x.tasteOf(taste, what)).append(' ');
      }
    }
    for (int i = 0; i < x.now(9); i++) {
      all.append(x.book(i)).append(' ');
    }
    all.append(x.count(3)).append(' ').append(x.count(4)).append(' ').append(x.count(5));
    return all.toString();
  }

  /** What the given answers count as, by finding, in the row of status(0) to status(6). */
  private static String counts(PeaSpoons x) {
    StringBuilder all = new StringBuilder();
    for (int which = 0; which < 7; which++) {
      all.append(x.status(which)).append(' ');
    }
    return all.toString().trim();
  }

  private static int tell(PeaSpoons x, String text) {
    for (int i = 0; i < text.length(); i++) {
      due("feed", x.feed(text.charAt(i), 1), i + 1);
    }
    return x.text();
  }

  private static void newObject() {
    promise = "1";
    PeaSpoons x = new PeaSpoons();
    due("seen", seen(x),
        "20 0 0 20 0 0 20 0 0 20 0 0 20 0 0 20 0 0 20 0 0 20 0 0 20 0 0 20 0 0 "
            + "0 0 3 40 1500 50 -1 0 0 0 0 0 1 0");
    due("count(0)", x.count(0), 0);
    due("undo", x.undo(), NONE);
    due("as", x.as(9, 0), MISSING);
    for (int s = 0; s < 4; s++) {
      due("load", x.load(s), MISSING);
    }
    due("counts", counts(x), "0 0 0 1 0 5 0");
  }

  private static void foods() {
    promise = "2, 3";
    PeaSpoons x = new PeaSpoons();
    due("like", x.food(3, 0, 99), 20);
    due("like again", x.food(3, 0, 0), 99);
    due("bitter", x.food(9, 1, 9), 0);
    due("bitter again", x.food(9, 1, 1), 9);
    due("like of 3", x.foodOf(3, 0), 0);
    due("bitter of 3", x.foodOf(3, 1), 0);
    due("like of 9", x.foodOf(9, 0), 20);
    due("bitter of 9", x.foodOf(9, 1), 1);
    due("tried", x.foodOf(9, 2), 0);
    x.food(0, 0, 49);
    due("just not liked", x.foodOf(0, 3), 0);
    x.food(0, 0, 50);
    due("just liked", x.foodOf(0, 3), 1);
    x.taste(TASTE, 0, 1);
    x.meals(2);
    due("tried twice", x.foodOf(0, 2), 2);
    String before = seen(x);
    due("no food", x.food(-1, 0, 0), BEYOND);
    due("no food", x.food(10, 0, 0), BEYOND);
    due("no what", x.food(0, -1, 0), BEYOND);
    due("no what", x.food(0, 2, 0), BEYOND);
    due("like below", x.food(0, 0, -1), BEYOND);
    due("like above", x.food(0, 0, 100), BEYOND);
    due("bitter below", x.food(0, 1, -1), BEYOND);
    due("bitter above", x.food(0, 1, 10), BEYOND);
    due("of no food", x.foodOf(-1, 0), BEYOND);
    due("of no food", x.foodOf(10, 0), BEYOND);
    due("of no what", x.foodOf(0, -1), BEYOND);
    due("of no what", x.foodOf(0, 4), BEYOND);
    due("seen", seen(x), before);
    due("counts", counts(x), "12 0 0 0 0 0 0");
  }

  private static void child() {
    promise = "4";
    PeaSpoons x = new PeaSpoons();
    due("bent", x.child(0, 9), 3);
    due("bent", x.child(0, 0), 9);
    due("hunger", x.child(1, 99), 40);
    due("hunger", x.child(1, 0), 99);
    due("weight", x.child(2, 9999), 1500);
    due("weight", x.child(2, 0), 9999);
    due("line", x.child(3, 99), 50);
    due("line", x.child(3, 1), 99);
    due("now", x.now(2) + 10 * x.now(3) + 100 * x.now(4) + 1000 * x.now(5), 1000);
    String before = seen(x);
    int[][] bad = {{-1, 0}, {4, 0}, {0, -1}, {0, 10}, {1, -1}, {1, 100}, {2, -1}, {2, 10000},
        {3, 0}, {3, 100}, {-1, -1}, {4, -1}};
    for (int[] b : bad) {
      due("child(" + b[0] + ", " + b[1] + ")", x.child(b[0], b[1]), BEYOND);
    }
    due("seen", seen(x), before);
    due("counts", counts(x), "12 0 0 0 0 0 0");
  }

  private static void pudding() {
    promise = "5";
    PeaSpoons x = new PeaSpoons();
    due("pudding", x.pudding(9), -1);
    due("pudding", x.pudding(0), 9);
    due("below", x.pudding(-2), BEYOND);
    due("above", x.pudding(10), BEYOND);
    due("none", x.pudding(-1), 0);
    due("now", x.now(6), -1);
    due("counts", counts(x), "2 0 0 0 0 0 0");
  }

  private static void friend() {
    promise = "6";
    PeaSpoons x = new PeaSpoons();
    due("friend", x.friend(1023), 0);
    due("friend", x.friend(5), 1023);
    due("below", x.friend(-1), BEYOND);
    due("above", x.friend(1024), BEYOND);
    due("friend", x.friend(0), 5);
    due("now", x.now(7), 0);
    due("counts", counts(x), "2 0 0 0 0 0 0");
  }

  private static void likedAndNext() {
    promise = "7, 8";
    PeaSpoons x = new PeaSpoons();
    due("none liked", x.liked(), 0);
    due("the least of several", x.next(), 0);
    x.food(0, 0, 50);
    x.food(4, 0, 49);
    x.food(6, 0, 49);
    x.food(9, 0, 99);
    due("liked", x.liked(), 1 + 512);
    due("next", x.next(), 4);
    x.child(3, 49);
    due("liked", x.liked(), 1 + 16 + 64 + 512);
    due("next", x.next(), 1);
    x.child(3, 1);
    due("all", x.liked(), 1023);
    due("none is left", x.next(), NONE);
    due("counts", counts(x), "0 0 0 1 0 0 0");
  }

  private static void taste() {
    promise = "9";
    PeaSpoons x = new PeaSpoons();
    int[][] bad = {{-1, 0, 1}, {7, 0, 1}, {0, -1, 1}, {0, 10, 1}, {0, 0, 0}, {0, 0, 21}};
    for (int[] b : bad) {
      due("wrong", x.taste(b[0], b[1], b[2]), BEYOND);
    }
    due("count", x.count(0), 0);
    for (int i = 0; i < 10; i++) {
      due("number", x.taste(i % 7, 9 - i, 1 + 2 * i), i);
    }
    String before = seen(x);
    due("an 11th", x.taste(0, 0, 1), FULL);
    due("a wrong 11th", x.taste(7, 0, 1), BEYOND);
    due("seen", seen(x), before);
    for (int i = 0; i < 10; i++) {
      due("kind", x.tasteOf(i, 0), i % 7);
      due("food", x.tasteOf(i, 1), 9 - i);
      due("put", x.tasteOf(i, 2), 1 + 2 * i);
    }
    due("counts", counts(x), "7 1 0 0 0 0 0");
  }

  private static void tasteOf() {
    promise = "10";
    PeaSpoons x = new PeaSpoons();
    due("without any", x.tasteOf(0, 0), BEYOND);
    for (int kind = 0; kind < 7; kind++) {
      x.taste(kind, 2, 20);
    }
    x.child(1, 50);
    x.food(2, 0, 53);
    // 20 * 53 * 70 = 74200
    int[] lone = {7, 0, 9, 12, 7, 7, 20};
    int[] befriended = {7, 0, 9, 12, 10, 10, 20};
    for (int kind = 0; kind < 7; kind++) {
      due("eats, kind " + kind, x.tasteOf(kind, 3), lone[kind]);
    }
    x.friend(4);
    for (int kind = 0; kind < 7; kind++) {
      due("eats, befriended, kind " + kind, x.tasteOf(kind, 3), befriended[kind]);
    }
    x.friend(1023 - 4);
    due("another one's friend", x.tasteOf(4, 3), 7);
    x.friend(4);
    for (int kind = 0; kind < 7; kind++) {
      x.change(kind, 2, 1);
    }
    x.child(1, 99);
    x.food(2, 0, 99);
    for (int kind = 0; kind < 7; kind++) {
      due("put at most, kind " + kind, x.tasteOf(kind, 3), kind == LICKED ? 0 : 1);
      x.change(kind, 2, 20);
      due("20 at most, kind " + kind, x.tasteOf(kind, 3), kind == LICKED ? 0 : 20);
    }
    String before = seen(x);
    due("no taste", x.tasteOf(-1, 0), BEYOND);
    due("no taste", x.tasteOf(7, 0), BEYOND);
    due("no what", x.tasteOf(0, -1), BEYOND);
    due("no what", x.tasteOf(0, 5), BEYOND);
    due("seen", seen(x), before);
    due("counts", counts(x), "5 0 0 0 0 0 0");
    x.food(2, 0, 50);
    x.child(1, 80);
    due("100000 by 10000", x.tasteOf(0, 3), 10);
    x.child(1, 79);
    due("99000 by 10000", x.tasteOf(0, 3), 9);
  }

  private static void moves() {
    promise = "10 (moves)";
    PeaSpoons x = new PeaSpoons();
    for (int kind = 0; kind < 7; kind++) {
      x.taste(kind, 5, 1);
    }
    moved(x, 0, 3, new int[] {6, 3, -2, 0, 6, 8, 1});
    moved(x, 3, 3, new int[] {6, 3, -2, 0, 6, 8, 1});
    moved(x, 4, 3, new int[] {5, 2, -3, -1, 5, 7, 1});
    moved(x, 9, 9, new int[] {-2, -1, -10, -8, -2, 0, 1});
    moved(x, 8, 9, new int[] {-1, 0, -9, -7, -1, 1, 1});
    x.friend(32);
    moved(x, 8, 9, new int[] {-1, 0, -9, -7, 2, 4, 1});
    moved(x, 0, 0, new int[] {6, 3, -2, 0, 9, 11, 1});
    x.friend(1023 - 32);
    moved(x, 0, 0, new int[] {6, 3, -2, 0, 6, 8, 1});
    x.food(5, 0, 99);
    moved(x, 0, 0, new int[] {6, 3, -2, 0, 6, 8, 1});
  }

  private static void moved(PeaSpoons x, int bitter, int bent, int[] want) {
    x.food(5, 1, bitter);
    x.child(0, bent);
    for (int kind = 0; kind < 7; kind++) {
      due("moves, kind " + kind + " bitter " + bitter + " bent " + bent, x.tasteOf(kind, 4), want[kind]);
    }
  }

  private static void change() {
    promise = "11";
    PeaSpoons x = new PeaSpoons();
    due("without any", x.change(0, 0, 0), BEYOND);
    x.taste(TASTE, 1, 2);
    x.taste(PAID, 4, 5);
    due("kind", x.change(1, 0, 6), 3);
    due("food", x.change(1, 1, 9), 4);
    due("put", x.change(1, 2, 20), 5);
    due("kind is", x.tasteOf(1, 0), 6);
    due("food is", x.tasteOf(1, 1), 9);
    due("put is", x.tasteOf(1, 2), 20);
    due("put of the other", x.tasteOf(0, 2), 2);
    String before = seen(x);
    int[][] bad = {{-1, 0, 0}, {2, 0, 0}, {0, -1, 1}, {0, 3, 1}, {0, 0, -1}, {0, 0, 7}, {0, 1, -1},
        {0, 1, 10}, {0, 2, 0}, {0, 2, 21}};
    for (int[] b : bad) {
      due("wrong", x.change(b[0], b[1], b[2]), BEYOND);
    }
    due("seen", seen(x), before);
    due("counts", counts(x), "11 0 0 0 0 0 0");
  }

  private static void swap() {
    promise = "12";
    PeaSpoons x = new PeaSpoons();
    due("without any", x.swap(0, 0), BEYOND);
    x.taste(TASTE, 1, 2);
    x.taste(PAID, 4, 5);
    x.taste(GROWN, 7, 8);
    x.hold(0, 0);
    due("swap", x.swap(0, 2), 1);
    due("kind", x.tasteOf(0, 0), GROWN);
    due("food", x.tasteOf(0, 1), 7);
    due("put", x.tasteOf(0, 2), 8);
    due("kind", x.tasteOf(2, 0), TASTE);
    due("food", x.tasteOf(2, 1), 1);
    due("put", x.tasteOf(2, 2), 2);
    due("the middle", x.tasteOf(1, 0), PAID);
    due("the spot's number", x.as(0, GROWN), 0);
    due("one with itself", x.swap(1, 1), 1);
    String before = seen(x);
    int[][] bad = {{-1, 0}, {3, 0}, {0, -1}, {0, 3}};
    for (int[] b : bad) {
      due("wrong", x.swap(b[0], b[1]), BEYOND);
    }
    due("seen", seen(x), before);
    due("counts", counts(x), "5 0 0 0 0 0 0");
  }

  private static void drop() {
    promise = "13";
    PeaSpoons x = new PeaSpoons();
    due("none", x.drop(), NONE);
    x.taste(TASTE, 1, 2);
    x.taste(PAID, 4, 5);
    x.hold(0, 1);
    x.hold(3, 1);
    x.hold(5, 0);
    x.hold(9, 1);
    due("drop", x.drop(), 1);
    due("spots", x.count(5), 1);
    due("spot", x.as(0, 0), MISSING);
    due("spot", x.as(3, 0), MISSING);
    due("spot", x.as(5, 0), 0);
    due("the dropped", x.tasteOf(1, 0), BEYOND);
    due("a new one", x.taste(LICKED, 9, 1), 1);
    due("spot still", x.as(9, 0), MISSING);
    due("drop", x.drop(), 1);
    due("drop", x.drop(), 0);
    due("spots", x.count(5), 0);
    due("none", x.drop(), NONE);
    due("counts", counts(x), "1 0 0 2 0 3 0");
  }

  private static void meals() {
    promise = "14";
    PeaSpoons x = new PeaSpoons();
    due("below", x.meals(0), BEYOND);
    due("above", x.meals(71), BEYOND);
    due("without a plan", x.meals(2), 0);
    due("hunger", x.now(3), 64);
    due("weight", x.now(4), 1492);
    x.taste(TASTE, 0, 20);
    x.taste(TASTE, 1, 20);
    // meal 2 serves taste 0: 20 * 20 * 84 = 33600: 3; hunger 64 - 9 + 12; meal 3: 20 * 20 * 87
    due("of the rest of the meal", x.meals(1), 3);
    due("like", x.foodOf(0, 0), 26);
    due("like of the other", x.foodOf(1, 0), 20);
    due("hunger", x.now(3), 67);
    due("weight", x.now(4), 1491);
    due("the other", x.meals(1), 3);
    due("like of the other", x.foodOf(1, 0), 26);
    due("tried", x.foodOf(1, 2), 1);
    due("meal", x.now(0), 4);
    // hunger 70: 20 * 26 * 90 = 46800: 4; hunger 70; then 4 again
    due("two", x.meals(2), 8);
    due("hunger", x.now(3), 70);
    due("z is as it was", x.count(4), 1);
    due("counts", counts(x), "2 0 0 0 0 0 0");
  }

  private static void mealsOfKinds() {
    promise = "14 (kinds)";
    PeaSpoons x = new PeaSpoons();
    x.taste(PAID, 0, 20);
    due("paid, without pudding", x.meals(1), 7);
    due("like", x.foodOf(0, 0), 20);
    x.pudding(0);
    x.meals(1);
    due("its own pudding", x.foodOf(0, 0), 25);
    x.pudding(8);
    x.food(8, 0, 97);
    x.food(0, 1, 9);
    x.meals(1);
    due("pudding at most 99", x.foodOf(8, 0), 99);
    due("like, bitter", x.foodOf(0, 0), 23);
    x.food(0, 0, 1);
    x.meals(1);
    due("like at least 0", x.foodOf(0, 0), 0);
    x.pudding(0);
    x.meals(1);
    due("held, then 5 more", x.foodOf(0, 0), 5);
    x.change(0, 0, PRESSED);
    x.meals(1);
    due("pressed ones pay nothing", x.foodOf(0, 0), 1);
    due("z is as it was", x.count(4), 1);

    PeaSpoons y = new PeaSpoons();
    y.taste(HIDDEN, 3, 12);
    // z 1 -> 1103527590, >>> 8 is 4310654, the rest by 10 is 4
    y.food(3, 1, 3);
    due("not found", y.meals(1), 12);
    due("z", y.count(4), 1103527590);
    due("like", y.foodOf(3, 0), 21);
    due("hunger", y.now(3), 16);
    due("weight", y.now(4), 1508);
    y.seed(1);
    y.food(3, 1, 4);
    due("found", y.meals(1), 0);
    due("like", y.foodOf(3, 0), 11);
    y.food(3, 0, 4);
    y.food(3, 1, 9);
    y.meals(1);
    due("at least 0", y.foodOf(3, 0), 0);
    due("tried", y.foodOf(3, 2), 3);

    PeaSpoons v = new PeaSpoons();
    v.taste(LICKED, 1, 20);
    due("licked", v.meals(1), 0);
    due("like", v.foodOf(1, 0), 23);
    due("tried", v.foodOf(1, 2), 1);
    v.change(0, 0, GROWN);
    v.friend(2);
    // 20 * 23 * 72 = 33120: 3, and 1
    due("grown", v.meals(1), 4);
    due("like", v.foodOf(1, 0), 34);
    v.change(0, 0, COPIED);
    // hunger 52 - 12 + 12; 20 * 34 * 72 = 48960: 4, and 2
    due("copied", v.meals(1), 6);
    due("like", v.foodOf(1, 0), 43);
  }

  private static void mealsAtTheBounds() {
    promise = "14 (bounds)";
    PeaSpoons x = new PeaSpoons();
    x.child(1, 90);
    x.child(2, 7);
    x.meals(2);
    due("hunger at most 99", x.now(3), 99);
    due("weight at least 0", x.now(4), 0);
    x.child(2, 9995);
    x.taste(HIDDEN, 0, 20);
    x.child(1, 5);
    x.meals(1);
    due("weight at most 9999", x.now(4), 9999);
    due("hunger at least 0, then 12", x.now(3), 12);
    x.change(0, 0, LICKED);
    for (int i = 0; i < 14; i++) {
      x.meals(70);
    }
    due("tried", x.foodOf(0, 2), 981);
    x.meals(18);
    due("tried", x.foodOf(0, 2), 999);
    x.meals(1);
    due("tried 999 at most", x.foodOf(0, 2), 999);
    due("meal", x.now(0), 1002);
    due("day", x.now(1), 200);
  }

  private static void now() {
    promise = "15";
    PeaSpoons x = new PeaSpoons();
    x.child(0, 5);
    x.child(3, 77);
    x.pudding(2);
    x.friend(9);
    x.taste(HIDDEN, 0, 3);
    x.meals(4);
    due("day", x.now(1), 0);
    due("booked", x.now(9), 4);
    x.change(0, 0, TASTE);
    x.change(0, 2, 1);
    x.meals(30);
    due("meal", x.now(0), 34);
    due("day", x.now(1), 6);
    due("bent", x.now(2), 5);
    due("line", x.now(5), 77);
    due("pudding", x.now(6), 2);
    due("friend", x.now(7), 9);
    due("booked", x.now(9), 34);
    due("not short with 34", x.now(10), 0);
    x.meals(1);
    due("booked", x.now(9), 35);
    due("short", x.now(10), 1);
    x.meals(1);
    due("booked", x.now(9), 35);
    due("below", x.now(-1), BEYOND);
    due("above", x.now(11), BEYOND);

    PeaSpoons y = new PeaSpoons();
    y.taste(PRESSED, 0, 3);
    y.food(0, 0, 0);
    y.child(0, 0);
    // pressed, like held at 0: 2 spoons each
    y.meals(35);
    due("week", y.now(8), 70);
    due("short", y.now(10), 1);
    y.change(0, 2, 20);
    y.change(0, 0, PAID);
    // paid: 5 spoons each, like stays 0
    y.meals(10);
    due("week", y.now(8), 100);
    due("100 is not short", y.now(10), 0);
    y.change(0, 2, 4);
    y.meals(24);
    due("week", y.now(8), 2 + 50 + 96);
    y.change(0, 0, LICKED);
    y.meals(15);
    due("week", y.now(8), 80);
    due("short", y.now(10), 1);
  }

  private static void bookDaySpread() {
    promise = "16, 17, 18";
    PeaSpoons x = new PeaSpoons();
    due("book of none", x.book(0), BEYOND);
    due("day of none", x.day(0), NONE);
    due("day beyond, of none", x.day(8), BEYOND);
    due("day beyond, of none", x.day(-1), BEYOND);
    due("spread of none", x.spread(), NONE);
    due("counts", counts(x), "3 0 0 2 0 0 0");
    for (int put = 1; put <= 10; put++) {
      x.taste(PAID, put - 1, put);
      x.food(put - 1, 0, 0);
    }
    x.meals(1);
    due("spread of one", x.spread(), 0);
    due("day of one", x.day(0), 1);
    due("an earlier day", x.day(1), 0);
    x.meals(2);
    due("book", x.book(0), 3);
    due("book", x.book(2), 1);
    due("book beyond", x.book(3), BEYOND);
    due("spread", x.spread(), 2);
    x.meals(3);
    // 1 2 3 4 5 | 5
    due("day 0", x.day(0), 5);
    due("day 1", x.day(1), 15);
    due("day 2", x.day(2), 0);
    x.food(9, 0, 99);
    x.change(9, 0, HIDDEN);
    x.meals(4);
    due("hidden", x.book(0), 10);
    due("spread", x.spread(), 9);
    x.change(9, 0, PAID);
    x.food(9, 0, 0);
    x.meals(27);
    // meals 2 to 36; the latest, 36, is on day 7; meal 2 on day 0
    due("day 0", x.day(0), 10);
    due("day 7", x.day(7), 3 + 4 + 5);
    due("day 6", x.day(6), 5 * 4 + 10);
    due("book 34", x.book(34), 3);
    due("book 35", x.book(35), BEYOND);
    due("book -1", x.book(-1), BEYOND);
    due("spread", x.spread(), 9);
    due("day 8", x.day(8), BEYOND);
    due("day -1", x.day(-1), BEYOND);
    x.meals(10);
    due("the 10 is gone from the book: 5 and 1", x.spread(), 4);

    PeaSpoons y = new PeaSpoons();
    y.meals(1);
    y.taste(HIDDEN, 0, 7);
    y.meals(1);
    y.change(0, 0, LICKED);
    y.meals(1);
    due("the most in the middle", y.spread(), 7);
    due("the middle", y.book(1), 7);
    due("day", y.day(0), 7);
  }

  private static void ahead() {
    promise = "19";
    PeaSpoons x = new PeaSpoons();
    x.taste(HIDDEN, 0, 4);
    x.taste(TASTE, 1, 20);
    x.child(3, 26);
    String before = seen(x);
    due("spoons", x.ahead(1, 0), 4);
    // hunger 40 - 12 + 12; 20 * 20 * 60: 2; hunger 46
    due("spoons", x.ahead(2, 0), 6);
    due("none yet", x.ahead(0, 1), 0);
    due("liked", x.ahead(2, 1), 2);
    due("weight", x.ahead(2, 2), 1498);
    due("hunger", x.ahead(2, 3), 46);
    due("like 0", x.ahead(2, 4), 21);
    due("like 1", x.ahead(2, 5), 26);
    due("like 9", x.ahead(350, 13), 20);
    due("like 0 now", x.ahead(0, 4), 20);
    due("seen", seen(x), before);
    int[][] bad = {{-1, 0}, {351, 0}, {0, -1}, {0, 14}};
    for (int[] b : bad) {
      due("wrong", x.ahead(b[0], b[1]), BEYOND);
    }
    int twice = x.ahead(350, 0);
    int z = x.count(4);
    due("the same as the meals", x.meals(70) + x.meals(70) + x.meals(70) + x.meals(70) + x.meals(70), twice);
    due("z went on", x.count(4) == z ? 1 : 0, 0);
    due("counts", counts(x), "4 0 0 0 0 0 0");
  }

  private static void when() {
    promise = "20";
    PeaSpoons x = new PeaSpoons();
    x.taste(TASTE, 0, 1);
    x.taste(LICKED, 1, 1);
    x.food(0, 0, 44);
    due("one meal", x.when(0), 1);
    x.food(0, 0, 43);
    due("three", x.when(0), 3);
    x.food(0, 0, 50);
    due("now", x.when(0), 0);
    due("never", x.when(2), NONE);
    // 20 and 10 times 3: the tenth licking is meal 19
    due("licked", x.when(1), 20);
    due("below", x.when(-1), BEYOND);
    due("above", x.when(10), BEYOND);
    due("counts", counts(x), "2 0 0 1 0 0 0");

    PeaSpoons y = new PeaSpoons();
    for (int i = 0; i < 10; i++) {
      y.taste(LICKED, i, 1);
      y.food(i, 1, 6);
    }
    y.child(0, 9);
    // 6 - 54/10 = 1: half is 0; a taste in place 9: 1 each ten meals
    y.change(9, 0, TASTE);
    y.food(9, 0, 15);
    due("at 350", y.when(9), 350);
    y.food(9, 0, 14);
    due("not at 350", y.when(9), NONE);
    y.swap(0, 9);
    y.food(9, 0, 15);
    due("at 341", y.when(9), 341);
    y.food(9, 0, 14);
    due("not at 351", y.when(9), NONE);
    due("seen", y.now(0), 0);
  }

  private static void times() {
    promise = "21";
    PeaSpoons x = new PeaSpoons();
    due("without any", x.times(0), BEYOND);
    x.taste(TASTE, 0, 1);
    x.taste(LICKED, 1, 1);
    x.taste(PRESSED, 2, 1);
    x.taste(PAID, 3, 1);
    String before = seen(x);
    due("taste: 20 + 5 * 6", x.times(0), 5);
    due("licked: 20 + 10 * 3", x.times(1), 10);
    due("pressed", x.times(2), NONE);
    due("paid: 0", x.times(3), NONE);
    x.pudding(3);
    due("paid with itself: 5", x.times(3), 6);
    x.pudding(-1);
    due("seen", seen(x), before);
    x.food(0, 0, 50);
    due("now", x.times(0), 0);
    x.food(0, 0, 0);
    x.food(0, 1, 6);
    x.child(0, 9);
    x.child(3, 99);
    due("99 times 1", x.times(0), 99);
    x.child(3, 50);
    x.child(0, 3);
    x.taste(HIDDEN, 4, 1);
    x.seed(1);
    // the draws of z 1 by 10: 4, never below 1
    x.food(4, 0, 49);
    due("hidden", x.times(4), 1);
    x.food(4, 1, 4);
    due("hidden, found at first", x.times(4) > 1 || x.times(4) == NONE ? 1 : 0, 1);
    due("below", x.times(-1), BEYOND);
    due("above", x.times(5), BEYOND);
    due("z", x.count(4), 1);

    PeaSpoons y = new PeaSpoons();
    y.taste(TASTE, 0, 1);
    y.child(3, 99);
    y.child(0, 9);
    y.food(0, 1, 6);
    y.food(0, 0, 0);
    y.meals(1);
    y.food(0, 0, 0);
    due("99", y.times(0), 99);
    due("as when", y.when(0), 99);

    PeaSpoons v = new PeaSpoons();
    v.taste(HIDDEN, 0, 1);
    v.food(0, 0, 0);
    int seed = seedWithTopAt(100);
    v.seed(seed);
    v.child(3, hiddenLike(seed, 100));
    due("100", v.times(0), NONE);
    due("100 ahead", v.when(0), 100);
    seed = seedWithTopAt(99);
    v.seed(seed);
    v.child(3, hiddenLike(seed, 99));
    due("99", v.times(0), 99);
    due("z", v.count(4), seed);
  }

  /** Like of a food without bitter, 0 at first, behind n hidden servings. */
  private static int hiddenLike(int seed, int n) {
    int z = seed;
    int like = 0;
    for (int i = 0; i < n; i++) {
      z = z * 1103515245 + 12345;
      like = (z >>> 8) % 10 < 1 ? Math.max(0, like - 10) : Math.min(99, like + 1);
    }
    return like;
  }

  private static int seedWithTopAt(int n) {
    for (int seed = 1; seed < 1000000; seed++) {
      int top = 0;
      for (int i = 1; i < n; i++) {
        top = Math.max(top, hiddenLike(seed, i));
      }
      if (hiddenLike(seed, n) > top) {
        return seed;
      }
    }
    return 0;
  }

  private static void kindFor() {
    promise = "22";
    PeaSpoons x = new PeaSpoons();
    due("without any", x.kindFor(0, 1), BEYOND);
    x.taste(LICKED, 0, 1);
    String before = seen(x);
    due("all alike: the least", x.kindFor(0, 1), TASTE);
    x.food(0, 0, 42);
    due("grown alone: 42 + 8", x.kindFor(0, 1), GROWN);
    x.food(0, 0, 41);
    due("none", x.kindFor(0, 1), TASTE);
    x.friend(1);
    due("copied or grown, befriended", x.kindFor(0, 1), COPIED);
    x.food(0, 0, 39);
    due("grown, befriended: 39 + 11", x.kindFor(0, 1), GROWN);
    x.food(0, 0, 48);
    x.food(0, 1, 9);
    x.child(0, 9);
    x.friend(0);
    x.seed(5);
    // taste -2, grown 0, hidden 1 if not found (bitter 9: always found); pudding 1 by paid ones
    due("none moves it up", x.kindFor(0, 1), TASTE);
    x.pudding(1);
    x.food(1, 0, 45);
    due("paid: the pudding", x.kindFor(0, 1), PAID);
    x.food(0, 1, 8);
    x.food(0, 0, 49);
    x.pudding(-1);
    // grown: 6 - 72/10 + 2 = 1
    due("grown", x.kindFor(0, 1), GROWN);
    x.food(0, 0, 20);
    x.food(0, 1, 0);
    x.child(0, 3);
    x.food(1, 0, 20);
    x.seed(1);
    due("seen", seen(x), before);
    due("n below", x.kindFor(0, 0), BEYOND);
    due("n above", x.kindFor(0, 176), BEYOND);
    due("no taste", x.kindFor(-1, 1), BEYOND);
    due("no taste", x.kindFor(1, 1), BEYOND);
    due("175", x.kindFor(0, 175), TASTE);
    due("counts", counts(x), "5 0 0 0 0 0 0");
  }

  private static void foodFor() {
    promise = "23";
    PeaSpoons x = new PeaSpoons();
    due("without any", x.foodFor(0, 1), BEYOND);
    x.taste(TASTE, 9, 1);
    x.taste(TASTE, 9, 1);
    String before = seen(x);
    due("none: the least", x.foodFor(0, 1), 0);
    x.food(4, 0, 44);
    x.food(6, 0, 48);
    due("the least that becomes liked", x.foodFor(0, 1), 4);
    due("of the taste that is not served", x.foodFor(1, 1), 0);
    x.food(4, 0, 43);
    due("6", x.foodFor(0, 1), 6);
    x.food(4, 0, 20);
    x.food(6, 0, 20);
    due("seen", seen(x), before);
    // pressed: it should not take a liked one below the line
    x.change(0, 0, PRESSED);
    for (int food = 0; food < 10; food++) {
      x.food(food, 0, food == 7 ? 99 : 50);
    }
    due("pressed", x.foodFor(0, 1), 7);
    due("n below", x.foodFor(0, 0), BEYOND);
    due("n above", x.foodFor(0, 176), BEYOND);
    due("no taste", x.foodFor(-1, 1), BEYOND);
    due("no taste", x.foodFor(2, 1), BEYOND);
    due("counts", counts(x), "5 0 0 0 0 0 0");
  }

  private static void putFor() {
    promise = "24";
    PeaSpoons x = new PeaSpoons();
    due("without any", x.putFor(0, 1), BEYOND);
    x.taste(TASTE, 0, 1);
    String before = seen(x);
    // 20 * 60 = 1200 by spoon: 9 spoons give 1, 17 give 2
    due("the least of the most", x.putFor(0, 1), 17);
    x.food(0, 0, 0);
    due("nothing is eaten", x.putFor(0, 1), 1);
    x.change(0, 0, PRESSED);
    due("pressed: 2", x.putFor(0, 1), 2);
    x.change(0, 0, PAID);
    due("paid: 5", x.putFor(0, 1), 5);
    x.change(0, 0, HIDDEN);
    due("hidden", x.putFor(0, 1), 20);
    x.change(0, 0, TASTE);
    x.food(0, 0, 20);
    due("seen", seen(x), before);
    due("n below", x.putFor(0, 0), BEYOND);
    due("n above", x.putFor(0, 176), BEYOND);
    due("no taste", x.putFor(-1, 1), BEYOND);
    due("no taste", x.putFor(1, 1), BEYOND);
    due("counts", counts(x), "5 0 0 0 0 0 0");
  }

  private static void paid() {
    promise = "25";
    PeaSpoons x = new PeaSpoons();
    due("no pudding", x.paid(0), NONE);
    due("beyond before none", x.paid(-1), BEYOND);
    due("beyond before none", x.paid(176), BEYOND);
    x.taste(PAID, 0, 1);
    x.taste(TASTE, 1, 1);
    x.taste(PAID, 2, 1);
    x.pudding(5);
    String before = seen(x);
    due("0", x.paid(0), 0);
    due("1", x.paid(1), 5);
    due("2", x.paid(2), 5);
    due("3", x.paid(3), 10);
    due("99 at most", x.paid(175), 79);
    due("seen", seen(x), before);
    x.pudding(0);
    // paid 0 and 5, and 5 of the other; pressed -2
    due("its own", x.paid(1), 7);
    due("its own, both", x.paid(3), 12);
    x.food(0, 0, 99);
    due("held at 99: 0 more than 97", x.paid(1), 2);
    due("beyond", x.paid(-1), BEYOND);
    due("beyond", x.paid(176), BEYOND);
    due("counts", counts(x), "4 0 0 1 0 0 0");
  }

  private static void worry() {
    promise = "26";
    PeaSpoons x = new PeaSpoons();
    due("the first week", x.worry(), 35);
    x.meals(34);
    due("the next meal", x.worry(), 1);
    x.meals(1);
    due("short already", x.worry(), 1);
    x.taste(HIDDEN, 0, 20);
    due("one more", x.worry(), 1);
    x.meals(35);
    String before = seen(x);
    due("week", x.now(10), 0);
    due("seen", seen(x), before);
    PeaSpoons y = new PeaSpoons();
    y.taste(PAID, 0, 3);
    y.meals(35);
    // 105; with nothing from now on: 102, then 99
    y.change(0, 0, LICKED);
    due("two meals", y.worry(), 2);
    y.change(0, 0, PAID);
    due("never", y.worry(), NONE);
    due("counts", counts(y), "0 0 0 1 0 0 0");
    PeaSpoons v = new PeaSpoons();
    for (int i = 0; i < 10; i++) {
      v.taste(PRESSED, i, 20);
      v.food(i, 0, 0);
    }
    due("70 of 35", v.worry(), 35);
    due("meal", v.now(0), 0);
    worryAtTheBound();
  }

  /** 3 spoons each, till the likes are too low for more than 2. */
  private static PeaSpoons wearyChild() {
    PeaSpoons x = new PeaSpoons();
    for (int i = 0; i < 10; i++) {
      x.taste(PRESSED, i, 3);
      x.food(i, 0, 70);
    }
    x.child(1, 99);
    return x;
  }

  private static void worryAtTheBound() {
    PeaSpoons x = wearyChild();
    int first = 0;
    while (x.now(10) == 0 && first < 250) {
      x.meals(1);
      first++;
    }
    due("short between 176 and 249", first > 176 && first < 250 ? 1 : 0, 1);
    PeaSpoons y = wearyChild();
    for (int left = first - 176; left > 0; left -= 70) {
      y.meals(Math.min(70, left));
    }
    due("176", y.worry(), NONE);
    y.meals(1);
    due("175", y.worry(), 175);
    y.meals(1);
    due("174", y.worry(), 174);
  }

  private static void order() {
    promise = "27";
    PeaSpoons x = new PeaSpoons();
    due("without any", x.order(1), NONE);
    due("below", x.order(0), BEYOND);
    due("above", x.order(71), BEYOND);
    x.taste(LICKED, 0, 1);
    due("one alone", x.order(1), NONE);
    x.taste(LICKED, 1, 1);
    x.taste(TASTE, 2, 1);
    x.taste(TASTE, 3, 1);
    x.food(2, 0, 44);
    x.food(3, 0, 44);
    String before = seen(x);
    due("the least two", x.order(1), 2);
    due("within two meals", x.order(2), 2);
    due("three meals: 0 and 3", x.order(3), 3);
    due("all are served", x.order(4), NONE);
    due("seen", seen(x), before);
    x.food(2, 0, 20);
    due("the other", x.order(1), 3);
    x.change(3, 1, 0);
    x.change(0, 0, TASTE);
    x.food(0, 0, 38);
    x.food(1, 0, 47);
    // taste 0 and 3 bring food 0 up by 12, taste 1 licks food 1 up by 3
    due("two meals: 1 and 3 lose food 1, no more than as it is", x.order(2), NONE);
    x.food(1, 0, 20);
    due("two meals: 1 and 3", x.order(2), 13);
    due("counts", counts(x), "2 0 0 4 0 0 0");
    PeaSpoons y = new PeaSpoons();
    y.taste(LICKED, 0, 1);
    y.taste(LICKED, 1, 1);
    y.taste(TASTE, 2, 1);
    y.food(2, 0, 44);
    due("0 and 2", y.order(2), 2);
    y.food(0, 0, 47);
    due("neighbours: 1 and 2, as 0 must stay", y.order(2), 12);
    y.food(0, 0, 20);
    y.food(1, 0, 47);
    due("neighbours: 0 and 1", y.order(1), 1);
  }

  private static void chance() {
    promise = "28";
    PeaSpoons x = new PeaSpoons();
    x.food(1, 0, 60);
    due("without a plan", x.chance(1, 20, 70), 20);
    due("not liked", x.chance(0, 20, 70), 0);
    due("no meals", x.chance(1, 3, 0), 3);
    due("z", x.count(4), 1);
    x.taste(HIDDEN, 0, 1);
    x.food(0, 0, 49);
    x.food(0, 1, 4);
    // liked where the draw isn't found: the rest of the draw is 5 or more
    int z = 1;
    int often = 0;
    for (int i = 0; i < 20; i++) {
      z = z * 1103515245 + 12345;
      often += (z >>> 8) % 10 >= 5 ? 1 : 0;
    }
    due("by z", x.chance(0, 20, 1), often);
    due("z stays", x.count(4), z);
    due("like stays", x.foodOf(0, 0), 49);
    due("meal stays", x.now(0), 0);
    int[][] bad = {{-1, 1, 0}, {10, 1, 0}, {0, 0, 0}, {0, 21, 0}, {0, 1, -1}, {0, 1, 71}};
    for (int[] b : bad) {
      due("wrong", x.chance(b[0], b[1], b[2]), BEYOND);
    }
    due("z stays", x.count(4), z);
    due("counts", counts(x), "6 0 0 0 0 0 0");
  }

  private static void seed() {
    promise = "29";
    PeaSpoons x = new PeaSpoons();
    due("first", x.seed(BEYOND), 1);
    due("z", x.count(4), BEYOND);
    due("any", x.seed(Integer.MIN_VALUE), BEYOND);
    due("any", x.seed(0), Integer.MIN_VALUE);
    x.taste(HIDDEN, 0, 1);
    x.seed(-1);
    x.meals(1);
    due("drawn", x.count(4), -1103515245 + 12345);
    due("no finding", x.status(-1), 0);
  }

  private static void feedAndWipe() {
    promise = "30, 31";
    PeaSpoons x = new PeaSpoons();
    due("empty", x.wipe(), 0);
    due("n below", x.feed(0, 0), BEYOND);
    due("n above", x.feed(0, 5), BEYOND);
    due("n", x.feed(0, -1), BEYOND);
    due("none", x.count(3), 0);
    for (int i = 1; i < 30; i++) {
      due("four", x.feed(-1, 4), 4 * i);
    }
    due("two", x.feed(0, 2), 118);
    due("too many", x.feed(0, 3), FULL);
    due("beyond before full", x.feed(0, 5), BEYOND);
    due("stays", x.count(3), 118);
    due("two", x.feed(0, 2), 120);
    due("too many", x.feed(0, 1), FULL);
    due("all", x.wipe(), 120);
    due("none", x.wipe(), 0);
    due("counts", counts(x), "4 2 0 0 0 0 0");
    // "line 7": the highest of the bytes first, the lowest bytes of the number
    x.feed(('l' << 24) | ('i' << 16) | ('n' << 8) | 'e', 4);
    x.feed((99 << 24) | (99 << 16) | (' ' << 8) | '7', 2);
    due("text", x.text(), 1);
    due("line", x.now(5), 7);
    x.feed(('a' << 24) | ('p' << 16) | ('u' << 8) | 'd', 3);
    x.feed(('d' << 24) | ('i' << 16) | ('n' << 8) | 'g', 4);
    x.feed('3', 1);
    due("text", x.text(), 1);
    due("pudding", x.now(6), 3);
    due("no finding", x.status(-1), 6);
  }

  private static void text() {
    promise = "32";
    PeaSpoons x = new PeaSpoons();
    due("all", tell(x, "food 3 like 99 bitter 9;food 4 bitter 8;food 5 like 7;food 6;bent9;hunger 0;"), -77);
    due("nothing changed", seen(x), seen(new PeaSpoons()));
    due("all", tell(x, "food 3 like 99 bitter 9;food4bitter8 ; food 5 like 007;food 6 ;bent9;hunger 0"), 6);
    due("3", x.foodOf(3, 0) * 10 + x.foodOf(3, 1), 999);
    due("4", x.foodOf(4, 0) * 10 + x.foodOf(4, 1), 208);
    due("5", x.foodOf(5, 0) * 10 + x.foodOf(5, 1), 70);
    due("6", x.foodOf(6, 0) * 10 + x.foodOf(6, 1), 200);
    due("bent", x.now(2), 9);
    due("hunger", x.now(3), 0);
    due("the tape is empty", x.count(3), 0);
    due("items", tell(x, "weight 9999;line 99;line 1;pudding 9;friend 0 1 9;friend 2 3;weight 0"), 7);
    due("weight", x.now(4), 0);
    due("line", x.now(5), 1);
    due("pudding", x.now(6), 9);
    due("just these", x.now(7), 12);
    x = new PeaSpoons();
    due("friend of all", tell(x, "  friend 0 1 2 3 4 5 6 7 8 9  "), 1);
    due("friend", x.now(7), 1023);
    due("one", tell(x, "friend 0000000000000000000004"), 1);
    due("friend", x.now(7), 16);
    due("again", tell(x, "food 0 like 5;food 0 like 6"), 2);
    due("the later", x.foodOf(0, 0), 6);
    due("the least", tell(x, "food 9 like 0 bitter 0;pudding 0;friend 9;bent 0"), 4);
    due("9", x.foodOf(9, 0), 0);
    due("pudding", x.now(6), 0);
    due("friend", x.now(7), 512);
    due("no finding", x.status(-1), 0);
    fullTapes();
  }

  private static void fullTapes() {
    String blanks = " ".repeat(120);
    due("120 blanks", tell(new PeaSpoons(), blanks), -121);
    due("120 letters", tell(new PeaSpoons(), "a".repeat(120)), -1);
    due("120 signs", tell(new PeaSpoons(), ";".repeat(120)), -1);
    due("a word at the end", tell(new PeaSpoons(), blanks.substring(4) + "food"), -121);
    due("a number at the end", tell(new PeaSpoons(), ("food 7" + blanks).substring(0, 119) + "7"), -120);
    due("an item that fills it", tell(new PeaSpoons(), "food" + "0".repeat(116)), 1);
    due("a sign at the end", tell(new PeaSpoons(), "food" + "0".repeat(115) + ";"), -121);
    StringBuilder items = new StringBuilder("bent1");
    for (int i = 0; i < 19; i++) {
      items.append(";bent").append(i % 10);
    }
    PeaSpoons x = new PeaSpoons();
    due("20 items", tell(x, items.toString()), 20);
    due("the last", x.now(2), 8);
  }

  private static void textFaults() {
    promise = "32 (faults)";
    String[] texts = {"", "   ", ";", "food", "food ", "food 10", "food -1", "food 1 like", "food 1 like 100",
        "food 1 bitter 10", "food 1 bitter 4 like 4", "food 1 like 4 like 4", "food 1 food 2", "Food 1",
        "foods 1", "foo 1", "bent 10", "bent", "bent 1 2", "hunger 100", "weight 10000", "line 0", "line 100",
        "pudding", "pudding 10", "pudding 1 2", "friend", "friend 10", "friend 1 1", "friend 2 1",
        "friend 1 10", "friend 1;", "friend 1 like", "friend 0 1 2 3 4 5 6 7 8 9 9", "taste", "taste 10",
        "taste 1 put", "taste 1 put 0", "taste 1 put 21", "taste 1 put 2 put 3", "taste 1 like 4",
        "hidden 1 2", "like 4", "put 3", "food 1;;food 2", "food 1,food 2", "food 1\tlike 2", "food 99999999999",
        "food 1 like 4 ;  ", "food 1 like4294967300", "food 1 @", "tastelicked 1", "food one",
        "xood 1", "gent 1", "fooe 1"};
    int[] faults = {0, 3, 0, 4, 5, 5, 5, 11, 12,
        14, 16, 14, 7, 0,
        0, 0, 5, 4, 7, 7, 7, 5, 5,
        7, 8, 10, 6, 7, 9, 9,
        9, 9, 9, 27, 5, 6,
        11, 12, 12, 14, 8,
        9, 0, 0, 7, 6, 6, 5,
        17, 11, 7, 0, 5,
        0, 0, 0};
    for (int i = 0; i < texts.length; i++) {
      PeaSpoons x = new PeaSpoons();
      due("text '" + texts[i] + "'", tell(x, texts[i]), -1 - faults[i]);
      due("tape", x.count(3), 0);
      due("nothing changed", seen(x), seen(new PeaSpoons()));
      due("no finding", x.status(-1), 0);
    }
    PeaSpoons x = new PeaSpoons();
    due("bytes beyond the letters", x.feed(0xe4, 1), 1);
    due("fault", x.text(), -1);
    x.feed(('b' << 24) | ('e' << 16) | ('n' << 8) | 't', 4);
    x.feed(0x31ff, 2);
    due("fault", x.text(), -6);
    x.feed(0, 1);
    due("fault", x.text(), -1);
  }

  private static void textOfTastes() {
    promise = "32 (tastes)";
    PeaSpoons x = new PeaSpoons();
    due("all kinds", tell(x, "taste 0;licked 1 put 1;pressed 2 put 20;paid 3;copied 4;grown 5;hidden 6 put 9"), 7);
    int[] puts = {5, 1, 20, 5, 5, 5, 9};
    for (int i = 0; i < 7; i++) {
      due("kind", x.tasteOf(i, 0), i);
      due("food", x.tasteOf(i, 1), i);
      due("put", x.tasteOf(i, 2), puts[i]);
    }
    due("an 11th", tell(x, "paid 0;bent 8;paid 0;paid 0; licked 99"), -1 - 29);
    due("tastes", x.count(0), 7);
    due("bent", x.now(2), 3);
    due("ten", tell(x, "paid 9;paid 8;paid 7;bent 8"), 4);
    due("tastes", x.count(0), 10);
    due("the last", x.tasteOf(9, 1), 7);
    due("an 11th", tell(x, "bent 1;hidden"), -1 - 7);
    due("bent", x.now(2), 8);
  }

  private static void holdAndAs() {
    promise = "33, 34";
    PeaSpoons x = new PeaSpoons();
    due("no taste", x.hold(0, 0), BEYOND);
    due("nothing", x.hold(0, -1), 1);
    for (int kind = 0; kind < 7; kind++) {
      x.taste(kind, 0, 1);
      due("hold", x.hold(kind + 3, kind), 1);
    }
    due("spots", x.count(5), 7);
    String[] under = {"0123456", "1", "23", "3", "45", "5", "6"};
    for (int kind = 0; kind < 7; kind++) {
      for (int as = 0; as < 7; as++) {
        boolean fits = under[as].indexOf('0' + kind) >= 0;
        due("kind " + kind + " as " + as, x.as(kind + 3, as), fits ? kind : KIND);
      }
    }
    due("again", x.hold(9, 2), 1);
    due("as", x.as(9, 2), 2);
    due("nothing", x.hold(9, -1), 1);
    due("missing", x.as(9, 0), MISSING);
    due("spots", x.count(5), 6);
    due("no spot", x.hold(-1, 0), BEYOND);
    due("no spot", x.hold(10, 0), BEYOND);
    due("no taste", x.hold(0, -2), BEYOND);
    due("no taste", x.hold(0, 7), BEYOND);
    due("no spot", x.as(-1, 0), BEYOND);
    due("no spot", x.as(10, 0), BEYOND);
    due("beyond before missing", x.as(0, -1), BEYOND);
    due("beyond before missing", x.as(0, 7), BEYOND);
    due("spots", x.count(5), 6);
    due("counts", counts(x), "9 0 34 0 0 1 0");
  }

  private static void sheet() {
    promise = "35";
    PeaSpoons x = new PeaSpoons();
    due("no sheet", x.sheet(-1, 8, 0), BEYOND);
    due("no sheet", x.sheet(4, 8, -1), BEYOND);
    due("bits", x.sheet(0, 7, -1), BEYOND);
    due("bits", x.sheet(0, 24, 1), BEYOND);
    due("bits", x.sheet(0, -8, 1), BEYOND);
    due("size", x.sheet(0, 8, -1), SIZE);
    due("size", x.sheet(0, 0, -1), SIZE);
    due("beyond", x.sheet(0, 8, 41), BEYOND);
    due("beyond", x.sheet(0, 0, 41), BEYOND);
    due("still missing", x.load(0), MISSING);
    due("none", x.sheet(0, 8, 0), 0);
    due("not missing", x.load(0), 0);
    due("40", x.sheet(3, 32, 40), 40);
    due("16", x.sheet(3, 16, 3), 3);
    due("loaded", x.load(3), 3);
    due("all 0", x.foodOf(0, 0) + x.foodOf(1, 0) + x.foodOf(2, 0), 0);
    x.write(3, 1, 9);
    due("anew", x.sheet(3, 16, 3), 3);
    due("loaded", x.load(3), 3);
    due("0 again", x.foodOf(1, 0), 0);
    due("not beyond", x.sheet(3, 16, 41), BEYOND);
    due("stays", x.write(3, 2, 0), 1);
    due("missing", x.sheet(3, 0, 40), 0);
    due("missing", x.load(3), MISSING);
    due("missing", x.write(3, 0, 0), MISSING);
    due("counts", counts(x), "8 0 0 0 0 3 2");
  }

  private static void write() {
    promise = "36";
    PeaSpoons x = new PeaSpoons();
    due("no sheet", x.write(-1, 0, 0), BEYOND);
    due("no sheet", x.write(4, 0, 0), BEYOND);
    due("missing", x.write(0, -1, 0), MISSING);
    x.sheet(0, 8, 4);
    x.sheet(1, 16, 4);
    x.sheet(2, 32, 4);
    int[] v = {256 + 5, 65536 + 7, 65536 + 99, -256 + 98};
    int[][] want = {{5, 7, 99, 98}, {261, 7, 99, -158}, {261, 65543, 65635, -158}};
    for (int s = 0; s < 3; s++) {
      for (int i = 0; i < 4; i++) {
        due("write", x.write(s, i, v[i]), 1);
        due("of " + s + " number " + i, numberOf(x, s, i), want[s][i] >= 0 && want[s][i] < 100 ? want[s][i] : -1);
      }
    }
    x.write(0, 0, 255);
    due("255 of 8 bits", numberOf(x, 0, 0), -1);
    x.write(0, 0, 127);
    due("127 of 8 bits", numberOf(x, 0, 0), -1);
    due("no number", x.write(0, -1, 0), BEYOND);
    due("no number", x.write(0, 4, 0), BEYOND);
    due("counts", counts(x), "4 0 0 0 0 1 0");
  }

  /** A number of a sheet, if it is a like; else -1. Sheet 3 and like of food 0 are used up. */
  private static int numberOf(PeaSpoons x, int s, int i) {
    int bits = s == 0 ? 8 : s == 1 ? 16 : 32;
    x.sheet(3, bits, 1);
    x.copy(s, i, 3, 0, 1);
    return x.load(3) == 1 ? x.foodOf(0, 0) : -1;
  }

  private static void copy() {
    promise = "37";
    PeaSpoons x = new PeaSpoons();
    due("no sheet", x.copy(-1, 0, 0, 0, 0), BEYOND);
    due("no sheet", x.copy(0, 0, 4, 0, 0), BEYOND);
    due("missing", x.copy(0, -1, 1, 0, 0), MISSING);
    x.sheet(0, 8, 6);
    due("missing", x.copy(0, 0, 1, 0, 0), MISSING);
    due("missing", x.copy(1, 0, 0, 0, 0), MISSING);
    x.sheet(1, 16, 6);
    due("kind before beyond", x.copy(0, -1, 1, 0, 0), KIND);
    x.sheet(1, 8, 4);
    int[][] bad = {{-1, 0, 1}, {0, -1, 1}, {0, 0, -1}, {6, 0, 1}, {0, 4, 1}, {2, 0, 5}, {0, 0, 5},
        {Integer.MAX_VALUE, 0, 1}, {0, Integer.MAX_VALUE, Integer.MAX_VALUE}, {0, 0, Integer.MIN_VALUE}};
    for (int[] b : bad) {
      due("beyond", x.copy(0, b[0], 1, b[1], b[2]), BEYOND);
    }
    for (int i = 0; i < 6; i++) {
      x.write(0, i, 11 + i);
    }
    due("none at the end", x.copy(0, 6, 1, 4, 0), 0);
    due("three", x.copy(0, 2, 1, 1, 3), 3);
    x.load(1);
    due("row", likes(x, 4), "0 13 14 15");
    due("up in itself", x.copy(0, 0, 0, 1, 5), 5);
    x.load(0);
    due("row", likes(x, 6), "11 11 12 13 14 15");
    due("down in itself", x.copy(0, 1, 0, 0, 5), 5);
    x.load(0);
    due("row", likes(x, 6), "11 12 13 14 15 15");
    due("counts", counts(x), "12 0 1 0 0 3 0");
  }

  private static String likes(PeaSpoons x, int n) {
    StringBuilder all = new StringBuilder();
    for (int food = 0; food < n; food++) {
      all.append(x.foodOf(food, 0)).append(' ');
    }
    return all.toString().trim();
  }

  private static void load() {
    promise = "38";
    PeaSpoons x = new PeaSpoons();
    due("no sheet", x.load(-1), BEYOND);
    due("no sheet", x.load(4), BEYOND);
    due("missing", x.load(0), MISSING);
    x.sheet(0, 32, 40);
    for (int i = 0; i < 12; i++) {
      x.write(0, i, 88 + i);
    }
    due("ten foods", x.load(0), 10);
    due("likes", likes(x, 10), "88 89 90 91 92 93 94 95 96 97");
    x.write(0, 0, 1);
    x.write(0, 3, 100);
    due("three", x.load(0), 3);
    due("likes", likes(x, 10), "1 89 90 91 92 93 94 95 96 97");
    x.write(0, 0, -1);
    due("none", x.load(0), 0);
    due("likes", likes(x, 1), "1");
    x.sheet(0, 8, 2);
    due("two", x.load(0), 2);
    due("likes", likes(x, 3), "0 0 90");
    due("counts", counts(x), "2 0 0 0 0 1 0");
  }

  private static void judge() {
    promise = "39";
    PeaSpoons x = new PeaSpoons();
    due("no sheet", x.judge(-1), BEYOND);
    due("no sheet", x.judge(4), BEYOND);
    due("missing", x.judge(0), MISSING);
    x.taste(PAID, 0, 3);
    x.taste(HIDDEN, 1, 7);
    x.sheet(0, 8, 4);
    String before = seen(x);
    due("the first", x.judge(0), 1);
    x.write(0, 0, 3);
    due("the second", x.judge(0), 2);
    x.write(0, 1, 7);
    due("the third", x.judge(0), 3);
    x.write(0, 2, 3);
    x.write(0, 3, x.ahead(4, 0) - 13);
    due("all", x.judge(0), 0);
    x.write(0, 3, 21);
    due("the fourth", x.judge(0), 4);
    due("seen", seen(x), before);
    x.sheet(1, 8, 0);
    due("none", x.judge(1), 0);
    due("counts", counts(x), "2 0 0 0 0 1 0");
  }

  private static void imageUndoTear() {
    promise = "40, 41, 42";
    PeaSpoons x = new PeaSpoons();
    due("nothing kept", x.undo(), NONE);
    due("nothing kept", x.tear(), 0);
    tell(x, "food 1 like 33 bitter 2;bent 4;hunger 50;weight 77;line 60;pudding 2;friend 7");
    tell(x, "taste 0;hidden 1 put 3");
    x.meals(7);
    x.hold(4, 1);
    String before = seen(x);
    due("image", x.image(), 1);
    tell(x, "food 1 like 3 bitter 0;bent 1;hunger 5;weight 7;line 6;pudding 4;friend 9;paid 4");
    x.change(1, 0, PAID);
    x.hold(5, 0);
    x.meals(3);
    x.drop();
    x.drop();
    x.sheet(0, 8, 5);
    due("undo", x.undo(), 7);
    due("seen", seen(x), before);
    due("spot", x.as(4, HIDDEN), 1);
    due("spot", x.as(5, 0), MISSING);
    due("the sheet stays", x.write(0, 4, 1), 1);

    PeaSpoons y = new PeaSpoons();
    y.image();
    y.feed('a', 1);
    y.food(0, 0, 1);
    due("undo", y.undo(), 0);
    due("the tape stays", y.count(3), 1);
    y.meals(2);
    due("it stays kept", y.undo(), 0);
    y.meals(4);
    y.image();
    y.meals(4);
    due("the latest", y.undo(), 4);
    due("finding", y.food(-1, 0, 0), BEYOND);
    y.undo();
    due("no finding is taken back", y.status(0), 1);
    due("tear", y.tear(), 1);
    due("torn", y.undo(), NONE);
    due("torn", y.tear(), 0);
    due("meal", y.now(0), 4);
  }

  private static void count() {
    promise = "43";
    PeaSpoons x = new PeaSpoons();
    x.taste(TASTE, 0, 1);
    x.taste(TASTE, 3, 1);
    x.food(5, 0, 50);
    x.food(6, 0, 99);
    x.meals(5);
    x.feed(0, 3);
    x.seed(-77);
    x.hold(0, 1);
    x.hold(1, 1);
    x.hold(2, 0);
    due("tastes", x.count(0), 2);
    due("liked", x.count(1), 2);
    due("tried", x.count(2), 5);
    due("bytes", x.count(3), 3);
    due("z", x.count(4), -77);
    due("spots", x.count(5), 3);
    due("below", x.count(-1), BEYOND);
    due("above", x.count(6), BEYOND);
    x.seed(NONE);
    due("z is no finding", x.count(4), NONE);
    due("counts", counts(x), "2 0 0 0 0 0 0");
  }

  private static void status() {
    promise = "44";
    PeaSpoons x = new PeaSpoons();
    due("none", x.status(-1), 0);
    due("beyond", x.status(-2), BEYOND);
    due("counted", x.status(0), 1);
    due("beyond", x.status(7), BEYOND);
    due("counted", x.status(0), 2);
    x.feed(0, 4);
    x.wipe();
    for (int i = 0; i < 10; i++) {
      x.taste(TASTE, 0, 1);
    }
    x.taste(TASTE, 0, 1);
    x.hold(0, 0);
    x.as(0, HIDDEN);
    x.as(0, PAID);
    x.undo();
    x.undo();
    x.undo();
    x.load(0);
    x.sheet(0, 8, -1);
    x.sheet(0, 16, -1);
    x.text();
    due("counts", counts(x), "2 1 2 3 0 1 2");
    due("all", x.status(-1), 11);
  }

  /**
   * No 512 calls reach these meals, so that the document leaves the answers free; they are
   * tested as it words them, since nothing else shows the STATE findings.
   */
  private static void lastMeals() {
    promise = "14 to 39 (STATE)";
    PeaSpoons x = new PeaSpoons();
    x.taste(LICKED, 0, 1);
    x.food(0, 0, 0);
    x.sheet(0, 8, 40);
    goTo(x, 99649);
    due("when", x.when(0) >= 0 ? 1 : 0, 1);
    due("ahead", x.ahead(350, 3), 99);
    x.meals(1);
    due("when", x.when(0), STATE);
    due("ahead", x.ahead(350, 3), STATE);
    due("ahead", x.ahead(349, 3), 99);
    goTo(x, 99824);
    x.food(0, 0, 0);
    due("worry", x.worry(), 1);
    due("175", x.kindFor(0, 175) + x.foodFor(0, 175) + x.putFor(0, 175) > 0 ? 1 : 0, 1);
    due("paid", x.paid(175), NONE);
    x.meals(1);
    due("worry", x.worry(), STATE);
    due("kindFor", x.kindFor(0, 175), STATE);
    due("foodFor", x.foodFor(0, 175), STATE);
    due("putFor", x.putFor(0, 175), STATE);
    due("paid", x.paid(175), STATE);
    due("kindFor", x.kindFor(0, 174) >= 0 ? 1 : 0, 1);
    goTo(x, 99900);
    x.food(0, 0, 20);
    due("times", x.times(0), 10);
    x.meals(1);
    due("times", x.times(0), STATE);
    goTo(x, 99929);
    due("order", x.order(70), NONE);
    due("chance", x.chance(1, 1, 70), 0);
    x.meals(1);
    due("order", x.order(70), STATE);
    due("chance", x.chance(1, 1, 70), STATE);
    due("meals", x.meals(70), STATE);
    goTo(x, 99959);
    due("judge", x.judge(0), 0);
    x.meals(1);
    due("judge", x.judge(0), STATE);
    goTo(x, 99999);
    due("meals", x.meals(1), STATE);
    due("ahead", x.ahead(1, 0), STATE);
    due("ahead", x.ahead(0, 0), 0);
    due("chance", x.chance(1, 1, 0), 0);
    due("meal", x.now(0), 99999);
    due("day", x.now(1), 19999);
    due("counts", counts(x), "0 0 0 2 14 0 0");
  }

  private static void goTo(PeaSpoons x, int meal) {
    for (int left = meal - x.now(0); left > 0; left -= 70) {
      x.meals(Math.min(left, 70));
    }
  }
}
