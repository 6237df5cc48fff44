import java.lang.reflect.Method;
import java.lang.reflect.Modifier;
import java.util.Arrays;

/** The bounds that the terms and the numbered paragraphs ahead of the promises name. */
public final class TermsEdgeTest {
  public static void main(String[] args) throws Exception {
    Edges.run(TermsEdgeTest.class);
  }

  private static void due(String what, long got, long want) {
    Edges.due(what, got, want);
  }

  // ---- findings

  static void termsZMayBeAnyIntAndIsNoFinding() {
    PeaSpoons x = new PeaSpoons();
    int[] all = {0, -1, Edges.BEYOND + 1, Edges.BEYOND, Edges.FULL, Edges.KIND, Edges.NONE, Edges.STATE,
        Edges.MISSING, Edges.SIZE, Edges.SIZE - 1, Edges.LEAST, Edges.MOST};
    int was = 1;
    for (int z : all) {
      due("seed(" + z + ")", x.seed(z), was);
      due("count(4)", x.count(4), z);
      was = z;
    }
    due("status(-1)", x.status(-1), 0);
  }

  static void termsFindingsAreLowToLowLess6() {
    PeaSpoons x = new PeaSpoons();
    due("BEYOND", x.pudding(10), -1000001);
    Edges.feed(x, " ".repeat(120));
    due("FULL", x.feed(32, 1), -1000001 - 1);
    x.taste(Edges.TASTE, 0, 1);
    x.hold(0, 0);
    due("KIND", x.as(0, Edges.PAID), -1000001 - 2);
    due("NONE", x.undo(), -1000001 - 3);
    due("STATE", Edges.late(99999).meals(1), -1000001 - 4);
    due("MISSING", x.load(0), -1000001 - 5);
    due("SIZE", x.sheet(0, 8, -1), -1000001 - 6);
  }

  /** Every call with arguments around the bounds: where a finding is answered, nothing but status() is another. */
  static void termsARefusedCallChangesNothingButStatus() throws Exception {
    int refused = 0;
    for (Edges.Scene scene : new Edges.Scene[] {PeaSpoons::new, Edges::rich, Edges::full}) {
      String untouched = Edges.everything(scene.made());
      for (Method method : PeaSpoons.class.getDeclaredMethods()) {
        if (Modifier.isPublic(method.getModifiers()) && !method.getName().equals("seed")) {
          refused += callsThatChangeNothing(scene, untouched, method);
        }
      }
    }
    due("refused calls enough", refused > 3000 ? 1 : 0, 1);
  }

  private static int callsThatChangeNothing(Edges.Scene scene, String untouched, Method method) throws Exception {
    int[] values = method.getParameterCount() > 3 ? new int[] {-1, 0, 3, 41} : new int[] {Edges.LEAST, -1, 0, 8, 1024};
    int number = 1;
    for (int i = 0; i < method.getParameterCount(); i++) {
      number *= values.length;
    }
    int refused = 0;
    for (int k = 0; k < number; k++) {
      Object[] arguments = new Object[method.getParameterCount()];
      int rest = k;
      for (int i = 0; i < arguments.length; i++) {
        arguments[i] = values[rest % values.length];
        rest /= values.length;
      }
      PeaSpoons x = scene.made();
      int[] before = Edges.statuses(x);
      int answer = (Integer) method.invoke(x, arguments);
      if (answer < -1000000 && !(method.getName().equals("count") && arguments[0].equals(4))) {
        refused++;
        String what = method.getName() + Arrays.toString(arguments);
        due(what + " is no finding", answer >= Edges.SIZE ? 1 : 0, 1);
        before[Edges.BEYOND - answer]++;
        before[7]++;
        Edges.due(what, Arrays.toString(Edges.statuses(x)), Arrays.toString(before));
        Edges.due(what, Edges.everything(x), untouched);
      }
    }
    return refused;
  }

  static void termsQuotientsAreCut() {
    // BITTER times BENT by 10
    int[][] bittersBentsAndMoves = {{0, 9, 6}, {1, 9, 6}, {2, 5, 5}, {5, 3, 5}, {4, 5, 4}, {7, 9, 0}, {7, 7, 2},
        {8, 8, 0}, {8, 9, -1}, {9, 8, -1}, {9, 9, -2}};
    for (int[] b : bittersBentsAndMoves) {
      due("a TASTE of " + b[0] + ", bent " + b[1], with(Edges.TASTE, 20, b[0], b[1]).tasteOf(0, 4), b[2]);
    }
    // half of 6, 5, 1, 0, -1, -2
    int[][] bittersBentsAndHalves = {{0, 9, 3}, {2, 5, 2}, {6, 9, 0}, {7, 9, 0}, {8, 9, 0}, {9, 9, -1}};
    for (int[] b : bittersBentsAndHalves) {
      due("LICKED of " + b[0] + ", bent " + b[1], with(Edges.LICKED, 20, b[0], b[1]).tasteOf(0, 4), b[2]);
    }
  }

  private static PeaSpoons with(int kind, int put, int bitter, int bent) {
    PeaSpoons x = new PeaSpoons();
    x.taste(kind, 4, put);
    x.food(4, 1, bitter);
    x.child(0, bent);
    return x;
  }

  // ---- 1. foods, the child, tastes

  static void paragraph1AFoodIsLikedFromLineOn() {
    int[] lines = {1, 2, 50, 98, 99};
    for (int line : lines) {
      PeaSpoons x = new PeaSpoons();
      x.child(3, line);
      x.food(0, 0, line - 1);
      due("LIKE " + (line - 1) + " at LINE " + line, x.foodOf(0, 3), 0);
      x.food(0, 0, line);
      due("LIKE at LINE " + line, x.foodOf(0, 3), 1);
      x.food(0, 0, 99);
      due("LIKE 99 at LINE " + line, x.foodOf(0, 3), 1);
    }
  }

  static void paragraph1TriedIs999AtMost() {
    PeaSpoons x = new PeaSpoons();
    x.taste(Edges.LICKED, 7, 1);
    Edges.goOn(x, 998);
    due("behind 998", x.foodOf(7, 2), 998);
    x.meals(1);
    due("behind 999", x.foodOf(7, 2), 999);
    x.meals(1);
    due("behind 1000", x.foodOf(7, 2), 999);
    x.meals(70);
    due("behind 1070", x.foodOf(7, 2), 999);
    due("of another", x.foodOf(6, 2), 0);
  }

  private static void eats(int kind, int put, int like, int hunger, int want) {
    eats(kind, put, like, hunger, 0, want);
  }

  /** What a taste tells, and what a meal that serves it brings. */
  private static void eats(int kind, int put, int like, int hunger, int friend, int want) {
    PeaSpoons x = new PeaSpoons();
    x.taste(kind, 3, put);
    x.food(3, 0, like);
    x.child(1, hunger);
    x.friend(friend);
    String what = "kind " + kind + " put " + put + " like " + like + " hunger " + hunger + " friend " + friend;
    due(what, x.tasteOf(0, 3), want);
    due(what + ", meals(1)", x.meals(1), want);
  }

  static void paragraph1ATasteEatsByAWhole10000() {
    // 11 * 9 * 101 = 9999; 10 * 10 * 100 = 10000; 10 * 20 * 99 = 19800
    eats(Edges.TASTE, 11, 9, 81, 0);
    eats(Edges.TASTE, 10, 10, 80, 1);
    eats(Edges.TASTE, 10, 20, 79, 1);
    eats(Edges.TASTE, 10, 20, 80, 2);
    // HUNGER 0 counts as 20: 20 * 24 * 20 = 9600; 20 * 25 * 20 = 10000
    eats(Edges.TASTE, 20, 24, 0, 0);
    eats(Edges.TASTE, 20, 25, 0, 1);
    eats(Edges.TASTE, 20, 99, 0, 3);
    eats(Edges.TASTE, 20, 0, 99, 0);
  }

  static void paragraph1PutAtMostIsEaten() {
    // 20 * 90 * 110 = 198000; 20 * 96 * 105 = 201600; 20 * 99 * 119 = 235620
    eats(Edges.TASTE, 20, 90, 90, 19);
    eats(Edges.TASTE, 20, 96, 85, 20);
    eats(Edges.TASTE, 20, 99, 99, 20);
    eats(Edges.TASTE, 1, 99, 99, 1);
    // pressed: 2 more, paid: 5 more
    eats(Edges.PRESSED, 1, 0, 40, 1);
    eats(Edges.PRESSED, 2, 0, 40, 2);
    eats(Edges.PRESSED, 3, 0, 40, 2);
    eats(Edges.PRESSED, 20, 99, 99, 20);
    eats(Edges.PAID, 4, 0, 40, 4);
    eats(Edges.PAID, 5, 0, 40, 5);
    eats(Edges.PAID, 6, 0, 40, 5);
    eats(Edges.PAID, 20, 99, 99, 20);
    // 20 * 75 * 100 = 150000: 15, 17, 20; 20 * 80 * 100: 16, 18, 21
    eats(Edges.PRESSED, 20, 75, 80, 17);
    eats(Edges.PAID, 20, 75, 80, 20);
    eats(Edges.PAID, 20, 80, 80, 20);
    eats(Edges.PRESSED, 20, 80, 80, 18);
  }

  static void paragraph1ALickedOneEatsNothing() {
    eats(Edges.LICKED, 20, 99, 99, 0);
    eats(Edges.LICKED, 1, 0, 0, 0);
  }

  static void paragraph1ACopiedOneEatsHalfMoreIfFriendHasTheFood() {
    for (int kind = Edges.COPIED; kind <= Edges.GROWN; kind++) {
      // 10 * 10 * 100: 1 and its half, cut; 20000: 2 and 1; 30000: 3 and 1
      eats(kind, 10, 10, 80, 8, 1);
      eats(kind, 10, 20, 80, 8, 3);
      eats(kind, 10, 30, 80, 8, 4);
      eats(kind, 10, 20, 80, 1023, 3);
      eats(kind, 10, 20, 80, 0, 2);
      eats(kind, 10, 20, 80, 1023 - 8, 2);
      eats(kind, 10, 9, 80, 8, 0);
      // 20 * 66 * 100: 13 and 6; 20 * 70 * 100: 14 and 7, PUT at most
      eats(kind, 20, 66, 80, 8, 19);
      eats(kind, 20, 70, 80, 8, 20);
      eats(kind, 20, 99, 99, 8, 20);
      eats(kind, 1, 99, 99, 8, 1);
    }
    eats(Edges.TASTE, 10, 20, 80, 8, 2);
    eats(Edges.PRESSED, 10, 20, 80, 8, 4);
  }

  static void paragraph1AFriendHasFood0AndFood9() {
    PeaSpoons x = new PeaSpoons();
    x.taste(Edges.COPIED, 0, 1);
    x.taste(Edges.COPIED, 9, 1);
    x.friend(1);
    due("food 0", x.tasteOf(0, 4), 9);
    due("food 9", x.tasteOf(1, 4), 6);
    x.friend(512);
    due("food 0", x.tasteOf(0, 4), 6);
    due("food 9", x.tasteOf(1, 4), 9);
  }

  static void paragraph1AHiddenOneEatsPutIfItIsNotFoundElseNothing() {
    int[] puts = {1, 20};
    for (int put : puts) {
      PeaSpoons x = new PeaSpoons();
      x.taste(Edges.HIDDEN, 3, put);
      x.food(3, 0, 0);
      x.child(1, 0);
      x.seed(Edges.seedWithRest(9));
      due("not found, put " + put, x.meals(1), put);
      x.food(3, 1, 9);
      due("found, put " + put, x.meals(1), 0);
    }
  }

  /** Each kind's move of a food's like from 50, by what a taste tells and by a meal. */
  private static void moves(int bitter, int bent, int friend, int... wants) {
    for (int kind = 0; kind < 6; kind++) {
      PeaSpoons x = with(kind, 1, bitter, bent);
      x.friend(friend);
      x.food(4, 0, 50);
      String what = "kind " + kind + " bitter " + bitter + " bent " + bent + " friend " + friend;
      due(what, x.tasteOf(0, 4), wants[kind]);
      x.meals(1);
      due(what + ", LIKE behind a meal", x.foodOf(4, 0), 50 + wants[kind]);
    }
  }

  static void paragraph1AllKindsMoveLike() {
    // TASTE, LICKED, PRESSED, PAID, COPIED, GROWN
    moves(0, 0, 0, 6, 3, -2, 0, 6, 8);
    moves(9, 0, 0, 6, 3, -2, 0, 6, 8);
    moves(0, 9, 0, 6, 3, -2, 0, 6, 8);
    moves(2, 5, 0, 5, 2, -3, -1, 5, 7);
    moves(9, 9, 0, -2, -1, -10, -8, -2, 0);
    moves(0, 0, 16, 6, 3, -2, 0, 9, 11);
    moves(9, 9, 16, -2, -1, -10, -8, 1, 3);
    moves(9, 9, 1023 - 16, -2, -1, -10, -8, -2, 0);
  }

  static void paragraph1AHiddenOneMovesLikeBy1IfItIsNotFoundElse10Less() {
    PeaSpoons x = with(Edges.HIDDEN, 1, 3, 9);
    x.food(4, 0, 50);
    x.seed(Edges.seedWithRest(4));
    x.meals(1);
    due("not found", x.foodOf(4, 0), 51);
    x.seed(Edges.seedWithRest(3));
    x.meals(1);
    due("found", x.foodOf(4, 0), 41);
  }

  private static void held(int kind, int bitter, int like, int want) {
    PeaSpoons x = with(kind, 1, bitter, 9);
    x.friend(16);
    x.food(4, 0, like);
    x.seed(Edges.seedWithRest(bitter > 0 ? 0 : 9));
    x.meals(1);
    due("kind " + kind + " bitter " + bitter + " from " + like, x.foodOf(4, 0), want);
  }

  static void paragraph1LikeIsHeldWithin0And99() {
    held(Edges.TASTE, 0, 92, 98);
    held(Edges.TASTE, 0, 93, 99);
    held(Edges.TASTE, 0, 94, 99);
    held(Edges.TASTE, 0, 99, 99);
    held(Edges.GROWN, 0, 88, 99);
    held(Edges.GROWN, 0, 89, 99);
    held(Edges.HIDDEN, 0, 98, 99);
    held(Edges.HIDDEN, 0, 99, 99);
    held(Edges.TASTE, 9, 3, 1);
    held(Edges.TASTE, 9, 2, 0);
    held(Edges.TASTE, 9, 1, 0);
    held(Edges.TASTE, 9, 0, 0);
    held(Edges.LICKED, 9, 1, 0);
    held(Edges.LICKED, 9, 0, 0);
    held(Edges.PRESSED, 9, 10, 0);
    held(Edges.PRESSED, 9, 9, 0);
    held(Edges.PAID, 9, 9, 1);
    held(Edges.PAID, 9, 8, 0);
    held(Edges.PAID, 9, 7, 0);
    held(Edges.HIDDEN, 9, 11, 1);
    held(Edges.HIDDEN, 9, 10, 0);
    held(Edges.HIDDEN, 9, 9, 0);
  }

  /** A hidden one is found, if the rest is BITTER or less, as that is below BITTER and 1. */
  static void paragraph1FoundIfTheRestIsBelowBitterAnd1() {
    for (int bitter = 0; bitter < 10; bitter++) {
      for (int rest = 0; rest < 10; rest++) {
        PeaSpoons x = with(Edges.HIDDEN, 7, bitter, 0);
        x.seed(Edges.seedWithRest(rest));
        due("bitter " + bitter + ", rest " + rest, x.meals(1), rest <= bitter ? 0 : 7);
      }
    }
  }

  static void paragraph1OneDrawEachMealThatServesAHiddenOneNoneElse() {
    PeaSpoons x = new PeaSpoons();
    for (int kind = 0; kind < 6; kind++) {
      x.taste(kind, kind, 3);
    }
    x.pudding(1);
    x.meals(6);
    due("z behind the others", x.count(4), 1);
    x.taste(Edges.HIDDEN, 6, 3);
    x.meals(1);
    due("z behind a hidden one", x.count(4), Edges.nextZ(1));
    x.meals(6);
    due("z behind the others", x.count(4), Edges.nextZ(1));
    x.food(6, 1, 9);
    x.meals(1);
    due("z behind one that is always found", x.count(4), Edges.nextZ(Edges.nextZ(1)));
  }

  // ---- 2. meals

  static void paragraph2AMealServesTheTasteOfTheRest() {
    PeaSpoons x = new PeaSpoons();
    x.taste(Edges.LICKED, 0, 1);
    x.taste(Edges.LICKED, 1, 1);
    x.taste(Edges.LICKED, 2, 1);
    x.meals(4);
    due("0, 1, 2, 0: food 0", x.foodOf(0, 2), 2);
    due("food 1", x.foodOf(1, 2), 1);
    due("food 2", x.foodOf(2, 2), 1);
    // meal 4 of two: 0; meal 5: 1
    x.drop();
    x.meals(2);
    due("food 0", x.foodOf(0, 2), 3);
    due("food 1", x.foodOf(1, 2), 2);
    for (int food = 2; food < 10; food++) {
      x.taste(Edges.LICKED, food, 1);
    }
    // meal 6 of ten: 6; meals 7, 8, 9, then 0
    x.meals(5);
    due("food 6", x.foodOf(6, 2), 1);
    due("food 9", x.foodOf(9, 2), 1);
    due("food 0", x.foodOf(0, 2), 4);
    due("food 5", x.foodOf(5, 2), 0);
  }

  static void paragraph2NothingIsServedWithoutAnyTaste() {
    PeaSpoons x = new PeaSpoons();
    x.pudding(0);
    due("spoons", x.meals(1), 0);
    due("tried", x.count(2), 0);
    due("z", x.count(4), 1);
    due("hunger", x.now(3), 52);
    due("weight", x.now(4), 1496);
    due("meal", x.now(0), 1);
    due("book", x.now(9), 1);
    due("spoons in it", x.book(0), 0);
    for (int food = 0; food < 10; food++) {
      due("like", x.foodOf(food, 0), 20);
    }
  }

  static void paragraph2DayIsMealBy5() {
    PeaSpoons x = new PeaSpoons();
    int[] days = {0, 0, 0, 0, 0, 1, 1, 1, 1, 1, 2};
    for (int meal = 0; meal < days.length; meal++) {
      due("meal " + meal, x.now(0), meal);
      due("day of meal " + meal, x.now(1), days[meal]);
      x.meals(1);
    }
  }

  static void paragraph2EatsByHungerAndLikeAsTheyAre() {
    PeaSpoons x = new PeaSpoons();
    x.taste(Edges.TASTE, 0, 20);
    x.food(0, 0, 24);
    x.child(1, 0);
    // 20 * 24 * 20 = 9600; moved first it were 20 * 30 * 20 = 12000
    due("by the like as it is", x.meals(1), 0);
    due("then moved", x.foodOf(0, 0), 30);
    // hunger 12: 20 * 30 * 32 = 19200: 1; 12 later it were 26400: 2
    due("by the hunger as it is", x.meals(1), 1);
    due("then moved", x.now(3), 12 - 3 + 12);
  }

  static void paragraph2APaidOneMovesPuddingBy5More() {
    int[][] fromAndTo = {{0, 5}, {93, 98}, {94, 99}, {95, 99}, {99, 99}};
    for (int[] f : fromAndTo) {
      PeaSpoons x = with(Edges.PAID, 1, 0, 0);
      x.pudding(9);
      x.food(9, 0, f[0]);
      x.meals(1);
      due("pudding from " + f[0], x.foodOf(9, 0), f[1]);
      due("its own food", x.foodOf(4, 0), 20);
      due("pudding isn't tried", x.foodOf(9, 2), 0);
    }
    for (int kind = 0; kind < 7; kind++) {
      PeaSpoons x = with(kind, 1, 0, 0);
      x.pudding(0);
      x.meals(1);
      due("kind " + kind + ", pudding 0", x.foodOf(0, 0), kind == Edges.PAID ? 25 : 20);
    }
    PeaSpoons x = with(Edges.PAID, 1, 0, 0);
    x.meals(1);
    for (int food = 0; food < 10; food++) {
      due("without a pudding, food " + food, x.foodOf(food, 0), 20);
    }
  }

  /** Behind one meal of so many spoons: hunger is what it was less 3 each (0 at least), then 12 more (99 at most). */
  private static void hungerBehind(int hunger, int spoons, int want) {
    PeaSpoons x = Edges.served();
    x.child(1, hunger);
    Edges.serve(x, spoons);
    due("hunger " + hunger + ", spoons " + spoons, x.now(3), want);
  }

  static void paragraph2HungerIsHeld() {
    hungerBehind(86, 0, 98);
    hungerBehind(87, 0, 99);
    hungerBehind(88, 0, 99);
    hungerBehind(99, 0, 99);
    hungerBehind(0, 0, 12);
    hungerBehind(61, 20, 13);
    hungerBehind(60, 20, 12);
    hungerBehind(59, 20, 12);
    hungerBehind(0, 20, 12);
    hungerBehind(0, 1, 12);
    hungerBehind(3, 1, 12);
    hungerBehind(4, 1, 13);
    hungerBehind(99, 3, 99);
    hungerBehind(99, 4, 99);
    hungerBehind(99, 5, 96);
    hungerBehind(99, 20, 51);
  }

  private static void weightBehind(int weight, int spoons, int want) {
    PeaSpoons x = Edges.served();
    x.child(2, weight);
    Edges.serve(x, spoons);
    due("weight " + weight + ", spoons " + spoons, x.now(4), want);
  }

  static void paragraph2WeightIsHeldWithin0And9999() {
    weightBehind(5, 0, 1);
    weightBehind(4, 0, 0);
    weightBehind(3, 0, 0);
    weightBehind(0, 0, 0);
    weightBehind(0, 3, 0);
    weightBehind(0, 4, 0);
    weightBehind(0, 5, 1);
    weightBehind(2, 3, 1);
    weightBehind(9982, 20, 9998);
    weightBehind(9983, 20, 9999);
    weightBehind(9984, 20, 9999);
    weightBehind(9999, 20, 9999);
    weightBehind(9999, 4, 9999);
    weightBehind(9999, 3, 9998);
    weightBehind(9999, 0, 9995);
  }

  static void paragraph2TheBookHasTheLatest35Meals() {
    PeaSpoons x = Edges.served();
    for (int meal = 0; meal < 37; meal++) {
      due("meals in it", x.now(9), Math.min(meal, 35));
      Edges.serve(x, 1 + meal % 20);
    }
    due("meals in it", x.now(9), 35);
    due("the latest, 36", x.book(0), 17);
    due("the earliest, 2", x.book(34), 3);
    // 1 to 20 without 1, 2; then 1 to 17
    due("together", x.now(8), 210 - 3 + 153);
  }

  static void paragraph2AWeekOfLessThan100Of35MealsIsShort() {
    PeaSpoons x = Edges.steady(2);
    x.meals(34);
    due("34 meals, 68 spoons", x.now(10), 0);
    x.meals(1);
    due("35 meals, 70 spoons", x.now(10), 1);
    int[] spoons = new int[35];
    Arrays.fill(spoons, 3);
    spoons[0] = 0;
    spoons[34] = 0;
    PeaSpoons y = Edges.served(spoons);
    due("spoons", y.now(8), 99);
    due("99", y.now(10), 1);
    spoons[34] = 1;
    y = Edges.served(spoons);
    due("spoons", y.now(8), 100);
    due("100", y.now(10), 0);
    PeaSpoons v = Edges.steady(0);
    v.meals(34);
    due("34 meals, nothing eaten", v.now(10), 0);
    v.meals(1);
    due("35 meals, nothing eaten", v.now(10), 1);
    due("new", new PeaSpoons().now(10), 0);
  }

  static void paragraph2AheadNothingChangesNotEvenZ() {
    Edges.Call[] all = {x -> x.ahead(350, 0), x -> x.when(0), x -> x.times(6), x -> x.kindFor(6, 175),
        x -> x.foodFor(6, 175), x -> x.putFor(6, 175), x -> x.paid(175), x -> x.worry(), x -> x.order(70),
        x -> x.judge(0), x -> x.judge(1)};
    for (int i = 0; i < all.length; i++) {
      PeaSpoons x = Edges.rich();
      int answer = all[i].on(x);
      if (answer < -1000000) {
        Edges.refused("call " + i, all[i], answer);
      } else {
        Edges.asked("call " + i, all[i], answer);
      }
    }
  }

  static void paragraph2AheadGoesOnAsMealsDo() {
    int[] counts = {1, 2, 35, 70};
    for (int n : counts) {
      PeaSpoons x = Edges.rich();
      PeaSpoons y = Edges.rich();
      due("spoons of " + n, x.ahead(n, 0), y.meals(n));
      due("liked behind " + n, x.ahead(n, 1), y.liked());
      due("weight behind " + n, x.ahead(n, 2), y.now(4));
      due("hunger behind " + n, x.ahead(n, 3), y.now(3));
      for (int food = 0; food < 10; food++) {
        due("like behind " + n, x.ahead(n, 4 + food), y.foodOf(food, 0));
      }
    }
  }

  static void paragraph2ADrawMakesZAnIntAndGivesItWithoutASign() {
    int[] all = {1, 0, -1, Edges.LEAST, Edges.MOST, 1103527590, -1103515245};
    for (int z : all) {
      PeaSpoons x = with(Edges.HIDDEN, 7, 4, 0);
      x.seed(z);
      int rest = Edges.rest(Edges.nextZ(z));
      due("found by " + z, x.meals(1), rest <= 4 ? 0 : 7);
      due("z behind " + z, x.count(4), Edges.nextZ(z));
    }
    // a z below 0 gives 24 bits above 0: as a signed one every rest were 0 or less, and always found
    int seed = 1;
    while (Edges.nextZ(seed) >= 0 || Edges.rest(Edges.nextZ(seed)) != 9) {
      seed++;
    }
    PeaSpoons x = with(Edges.HIDDEN, 7, 8, 0);
    x.seed(seed);
    due("rest 9, bitter 8, z below 0", x.meals(1), 7);
    due("z", x.count(4) < 0 ? 1 : 0, 1);
  }

  static void paragraph2ZIsToldAs1AtFirst() {
    PeaSpoons x = with(Edges.HIDDEN, 7, 3, 0);
    due("z", x.count(4), 1);
    // 1 * 1103515245 + 12345 = 1103527590; by 256: 4310654, whose rest is 4
    due("not found by bitter 3", x.meals(1), 7);
    due("z", x.count(4), 1103527590);
    x.seed(1);
    x.food(4, 1, 4);
    due("found by bitter 4", x.meals(1), 0);
  }
}
