/** The bounds that promises 9 to 13 name. */
public final class TastesEdgeTest {
  public static void main(String[] args) throws Exception {
    Edges.run(TastesEdgeTest.class);
  }

  private static void due(String what, long got, long want) {
    Edges.due(what, got, want);
  }

  private static void beyond(String what, Edges.Call call) {
    Edges.refused(what, call, Edges.BEYOND);
  }

  private static void taste(PeaSpoons x, int number, int kind, int food, int put) {
    due("kind of " + number, x.tasteOf(number, 0), kind);
    due("food of " + number, x.tasteOf(number, 1), food);
    due("put of " + number, x.tasteOf(number, 2), put);
  }

  /** Seven tastes, one of each kind, so that their numbers are 0 to 6. */
  private static PeaSpoons ofEachKind() {
    PeaSpoons x = new PeaSpoons();
    for (int kind = 0; kind < 7; kind++) {
      x.taste(kind, kind, kind + 1);
    }
    return x;
  }

  // ---- 9. taste

  static void promise09KindFoodAndPutAtTheirBounds() {
    PeaSpoons x = new PeaSpoons();
    due("the least of all", x.taste(0, 0, 1), 0);
    due("the greatest of all", x.taste(6, 9, 20), 1);
    taste(x, 0, 0, 0, 1);
    taste(x, 1, 6, 9, 20);
    int[][] bad = {{-1, 0, 1}, {7, 0, 1}, {0, -1, 1}, {0, 10, 1}, {0, 0, 0}, {0, 0, 21}, {0, 0, -1},
        {Edges.LEAST, 0, 1}, {Edges.MOST, 0, 1}, {0, Edges.LEAST, 1}, {0, Edges.MOST, 1}, {0, 0, Edges.LEAST},
        {0, 0, Edges.MOST}};
    for (int[] b : bad) {
      beyond("taste(" + b[0] + ", " + b[1] + ", " + b[2] + ")", y -> y.taste(b[0], b[1], b[2]));
    }
  }

  static void promise09TenAtMostThenFull() {
    PeaSpoons x = new PeaSpoons();
    for (int number = 0; number < 10; number++) {
      due("number", x.taste(number % 7, 9 - number, 20 - number), number);
      due("how many", x.count(0), number + 1);
    }
    for (int number = 0; number < 10; number++) {
      taste(x, number, number % 7, 9 - number, 20 - number);
    }
    Edges.refused("an 11th", Edges::full, y -> y.taste(0, 0, 1), Edges.FULL);
    x.drop();
    due("a 10th again", x.taste(6, 9, 20), 9);
    due("an 11th again", x.taste(6, 9, 20), Edges.FULL);
  }

  static void promise09BeyondIsToldAheadOfFull() {
    Edges.refused("kind", Edges::full, y -> y.taste(7, 0, 1), Edges.BEYOND);
    Edges.refused("food", Edges::full, y -> y.taste(0, 10, 1), Edges.BEYOND);
    Edges.refused("put", Edges::full, y -> y.taste(0, 0, 21), Edges.BEYOND);
  }

  // ---- 10. tasteOf

  static void promise10TastesAreThoseOfThePlan() {
    Edges.refused("without any", PeaSpoons::new, y -> y.tasteOf(0, 0), Edges.BEYOND);
    Edges.asked("the first", y -> y.tasteOf(0, 0), Edges.TASTE);
    Edges.asked("the last of seven", y -> y.tasteOf(6, 0), Edges.HIDDEN);
    beyond("one behind the last", y -> y.tasteOf(7, 0));
    beyond("-1", y -> y.tasteOf(-1, 0));
    beyond("the least int", y -> y.tasteOf(Edges.LEAST, 0));
    beyond("the greatest int", y -> y.tasteOf(Edges.MOST, 0));
    Edges.asked("the last of ten", Edges::full, y -> y.tasteOf(9, 1), 9);
    Edges.refused("the 11th", Edges::full, y -> y.tasteOf(10, 1), Edges.BEYOND);
  }

  static void promise10WhatIs0To4() {
    PeaSpoons x = new PeaSpoons();
    x.taste(Edges.PAID, 9, 20);
    // 20 * 20 * 60 = 24000: 2, and 2, and 3
    int[] wants = {3, 9, 20, 7, 0};
    for (int what = 0; what < 5; what++) {
      due("what " + what, x.tasteOf(0, what), wants[what]);
    }
    beyond("-1", y -> y.tasteOf(0, -1));
    beyond("5", y -> y.tasteOf(0, 5));
    beyond("the least int", y -> y.tasteOf(0, Edges.LEAST));
    beyond("the greatest int", y -> y.tasteOf(0, Edges.MOST));
  }

  static void promise10AHiddenOneAsNotFound() {
    PeaSpoons x = new PeaSpoons();
    x.taste(Edges.HIDDEN, 2, 13);
    x.food(2, 0, 0);
    x.food(2, 1, 9);
    x.child(0, 9);
    due("eats, though it will be found", x.tasteOf(0, 3), 13);
    due("moves, though it will be found", x.tasteOf(0, 4), 1);
    due("z", x.count(4), 1);
    due("then it is found", x.meals(1), 0);
  }

  /** The move itself is told: what holds LIKE comes behind it. */
  static void promise10MovesIsTheMoveAlsoWhereLikeIsHeld() {
    PeaSpoons x = new PeaSpoons();
    x.taste(Edges.TASTE, 2, 1);
    x.food(2, 0, 99);
    due("at 99", x.tasteOf(0, 4), 6);
    x.change(0, 0, Edges.PRESSED);
    x.food(2, 0, 0);
    due("at 0", x.tasteOf(0, 4), -2);
  }

  // ---- 11. change

  static void promise11KindIs0To6() {
    PeaSpoons x = ofEachKind();
    due("to the greatest", x.change(0, 0, 6), 0);
    due("to the least", x.change(6, 0, 0), 6);
    taste(x, 0, 6, 0, 1);
    taste(x, 6, 0, 6, 7);
    beyond("-1", y -> y.change(0, 0, -1));
    beyond("7", y -> y.change(0, 0, 7));
    beyond("the greatest int", y -> y.change(0, 0, Edges.MOST));
  }

  static void promise11FoodIs0To9() {
    PeaSpoons x = ofEachKind();
    due("to the greatest", x.change(0, 1, 9), 0);
    due("to the least", x.change(6, 1, 0), 6);
    taste(x, 0, 0, 9, 1);
    taste(x, 6, 6, 0, 7);
    beyond("-1", y -> y.change(0, 1, -1));
    beyond("10", y -> y.change(0, 1, 10));
    beyond("the greatest int", y -> y.change(0, 1, Edges.MOST));
  }

  static void promise11PutIs1To20() {
    PeaSpoons x = ofEachKind();
    due("to the greatest", x.change(0, 2, 20), 1);
    due("to the least", x.change(6, 2, 1), 7);
    taste(x, 0, 0, 0, 20);
    taste(x, 6, 6, 6, 1);
    beyond("0", y -> y.change(0, 2, 0));
    beyond("-1", y -> y.change(0, 2, -1));
    beyond("21", y -> y.change(0, 2, 21));
    beyond("the greatest int", y -> y.change(0, 2, Edges.MOST));
  }

  static void promise11TasteAndWhatAtTheirBounds() {
    Edges.refused("without any", PeaSpoons::new, y -> y.change(0, 0, 0), Edges.BEYOND);
    beyond("taste -1", y -> y.change(-1, 0, 0));
    beyond("taste 7 of 7", y -> y.change(7, 0, 0));
    beyond("what -1", y -> y.change(0, -1, 1));
    beyond("what 3", y -> y.change(0, 3, 1));
    beyond("what -1, -1", y -> y.change(0, -1, -1));
    beyond("what 3, -1", y -> y.change(0, 3, -1));
    beyond("the least int", y -> y.change(Edges.LEAST, 0, 0));
    beyond("the greatest int", y -> y.change(Edges.MOST, 0, 0));
    PeaSpoons x = Edges.full();
    due("taste 9 of 10", x.change(9, 2, 1), 19);
    due("taste 10 of 10", x.change(10, 2, 1), Edges.BEYOND);
  }

  // ---- 12. swap

  static void promise12TheFirstAndTheLastOfTen() {
    PeaSpoons x = Edges.full();
    due("swap", x.swap(0, 9), 1);
    taste(x, 0, 9 % 7, 9, 19);
    taste(x, 9, 0, 0, 1);
    for (int number = 1; number < 9; number++) {
      taste(x, number, number % 7, number, 2 * number + 1);
    }
    due("back", x.swap(9, 0), 1);
    taste(x, 0, 0, 0, 1);
    taste(x, 9, 9 % 7, 9, 19);
  }

  static void promise12SpotsHoldTheNumbers() {
    PeaSpoons x = ofEachKind();
    x.hold(0, 1);
    x.hold(9, 3);
    x.swap(1, 3);
    due("spot 0 holds 1, now a paid one", x.as(0, Edges.PAID), 1);
    due("spot 9 holds 3, now a licked one", x.as(9, Edges.LICKED), 3);
  }

  static void promise12OneWithItself() {
    Edges.asked("the only one", () -> {
      PeaSpoons x = new PeaSpoons();
      x.taste(Edges.GROWN, 4, 9);
      return x;
    }, y -> y.swap(0, 0), 1);
    Edges.asked("the last one", y -> y.swap(6, 6), 1);
  }

  static void promise12TastesAreThoseOfThePlan() {
    Edges.refused("without any", PeaSpoons::new, y -> y.swap(0, 0), Edges.BEYOND);
    int[][] bad = {{-1, 0}, {0, -1}, {7, 0}, {0, 7}, {-1, -1}, {7, 7}, {Edges.LEAST, 0}, {0, Edges.LEAST},
        {Edges.MOST, 0}, {0, Edges.MOST}};
    for (int[] b : bad) {
      beyond("swap(" + b[0] + ", " + b[1] + ")", y -> y.swap(b[0], b[1]));
    }
    Edges.refused("10 of 10", Edges::full, y -> y.swap(9, 10), Edges.BEYOND);
  }

  // ---- 13. drop

  static void promise13FromTenDownToNone() {
    PeaSpoons x = Edges.full();
    for (int left = 9; left >= 0; left--) {
      due("drop", x.drop(), left);
      due("how many", x.count(0), left);
      due("the dropped one", x.tasteOf(left, 0), Edges.BEYOND);
    }
    due("none is left", x.drop(), Edges.NONE);
    due("the first again", x.taste(0, 0, 1), 0);
  }

  static void promise13NoneWithoutAny() {
    Edges.refused("a new object", PeaSpoons::new, y -> y.drop(), Edges.NONE);
    Edges.refused("all dropped", () -> {
      PeaSpoons x = Edges.rich();
      for (int left = 7; left > 0; left--) {
        x.drop();
      }
      return x;
    }, y -> y.drop(), Edges.NONE);
  }

  static void promise13NoSpotHoldsItThen() {
    PeaSpoons x = ofEachKind();
    for (int spot = 0; spot < 10; spot++) {
      x.hold(spot, spot == 4 ? 5 : 6);
    }
    due("drop", x.drop(), 6);
    due("spots in use", x.count(5), 1);
    for (int spot = 0; spot < 10; spot++) {
      due("spot " + spot, x.as(spot, 0), spot == 4 ? 5 : Edges.MISSING);
    }
    due("a new one of its number", x.taste(Edges.HIDDEN, 6, 7), 6);
    due("spots in use", x.count(5), 1);
    due("spot 0", x.as(0, 0), Edges.MISSING);
  }

  static void promise13OneThatNoSpotHolds() {
    PeaSpoons x = ofEachKind();
    x.hold(0, 0);
    x.hold(9, 5);
    x.drop();
    due("spots in use", x.count(5), 2);
    due("the other tastes stay", x.tasteOf(5, 2), 6);
  }
}
