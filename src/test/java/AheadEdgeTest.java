/** The bounds that promises 19 to 29 name. */
public final class AheadEdgeTest {
  public static void main(String[] args) throws Exception {
    Edges.run(AheadEdgeTest.class);
  }

  private static void due(String what, long got, long want) {
    Edges.due(what, got, want);
  }

  private static void beyond(String what, Edges.Call call) {
    Edges.refused(what, call, Edges.BEYOND);
  }

  /** A call that goes so many meals ahead: taken where they end at meal 99999, STATE one meal later. */
  private static void lateBy(int meals, String what, Edges.Call call) {
    int answer = call.on(Edges.late(99999 - meals));
    due(what + " at " + (99999 - meals) + " is no STATE", answer == Edges.STATE ? 1 : 0, 0);
    if (meals > 0) {
      Edges.refused(what + " at " + (100000 - meals), () -> Edges.late(100000 - meals), call, Edges.STATE);
      Edges.refused(what + " at 99999", () -> Edges.late(99999), call, Edges.STATE);
    }
  }

  private static void lateBeyond(String what, Edges.Call call) {
    Edges.refused(what + " at 99999", () -> Edges.late(99999), call, Edges.BEYOND);
  }

  /**
   * Ten tastes, all of them licked and of food 0 that nothing moves (6 less 54 by 10 is 1, its half 0),
   * but the one at a place, a taste of food 9, which has no like and is moved by 1.
   */
  private static PeaSpoons slow(int place) {
    PeaSpoons x = new PeaSpoons();
    x.child(0, 9);
    x.food(0, 1, 6);
    x.food(9, 1, 6);
    x.food(9, 0, 0);
    for (int i = 0; i < 10; i++) {
      x.taste(i == place ? Edges.TASTE : Edges.LICKED, i == place ? 9 : 0, 1);
    }
    return x;
  }

  // ---- 19. ahead

  static void promise19NoMealAhead() {
    PeaSpoons x = Edges.rich();
    due("spoons", x.ahead(0, 0), 0);
    due("liked", x.ahead(0, 1), x.liked());
    due("weight", x.ahead(0, 2), x.now(4));
    due("hunger", x.ahead(0, 3), x.now(3));
    for (int food = 0; food < 10; food++) {
      due("like", x.ahead(0, 4 + food), x.foodOf(food, 0));
    }
  }

  static void promise19From0To350() {
    // without a plan: 4 less and 12 more each
    PeaSpoons x = new PeaSpoons();
    due("weight behind 1", x.ahead(1, 2), 1496);
    due("hunger behind 1", x.ahead(1, 3), 52);
    due("weight behind 350", x.ahead(350, 2), 100);
    due("hunger behind 350", x.ahead(350, 3), 99);
    due("like behind 350", x.ahead(350, 4), 20);
    due("liked behind 350", x.ahead(350, 1), 0);
    due("spoons of 350", x.ahead(350, 0), 0);
    due("spoons of 350 steady ones", Edges.steady(5).ahead(350, 0), 1750);
    due("like behind 350 slow ones", slow(9).ahead(350, 13), 35);
    due("like behind 349", slow(9).ahead(349, 13), 34);
    beyond("-1", y -> y.ahead(-1, 0));
    beyond("351", y -> y.ahead(351, 0));
    beyond("the least int", y -> y.ahead(Edges.LEAST, 0));
    beyond("the greatest int", y -> y.ahead(Edges.MOST, 0));
  }

  static void promise19WhatIs0To13() {
    PeaSpoons x = new PeaSpoons();
    x.food(0, 0, 61);
    x.food(9, 0, 62);
    due("4, food 0", x.ahead(1, 4), 61);
    due("13, food 9", x.ahead(1, 13), 62);
    due("1, liked", x.ahead(1, 1), 513);
    beyond("-1", y -> y.ahead(0, -1));
    beyond("14", y -> y.ahead(0, 14));
    beyond("the least int", y -> y.ahead(0, Edges.LEAST));
    beyond("the greatest int", y -> y.ahead(0, Edges.MOST));
  }

  static void promise19State() {
    lateBy(350, "ahead(350, 0)", y -> y.ahead(350, 0));
    lateBy(1, "ahead(1, 3)", y -> y.ahead(1, 3));
    lateBy(0, "ahead(0, 0)", y -> y.ahead(0, 0));
    lateBeyond("ahead(351, 0)", y -> y.ahead(351, 0));
    lateBeyond("ahead(350, 14)", y -> y.ahead(350, 14));
    lateBeyond("ahead(350, -1)", y -> y.ahead(350, -1));
  }

  // ---- 20. when

  static void promise20FoodsAre0To9() {
    PeaSpoons x = new PeaSpoons();
    x.food(0, 0, 50);
    x.food(9, 0, 50);
    due("food 0", x.when(0), 0);
    due("food 9", x.when(9), 0);
    due("food 8", x.when(8), Edges.NONE);
    beyond("-1", y -> y.when(-1));
    beyond("10", y -> y.when(10));
    beyond("the least int", y -> y.when(Edges.LEAST));
    beyond("the greatest int", y -> y.when(Edges.MOST));
  }

  private static int slowWhen(int place, int line) {
    PeaSpoons x = slow(place);
    x.child(3, line);
    return x.when(9);
  }

  static void promise20From0To350Meals() {
    due("1 at the first meal", slowWhen(0, 1), 1);
    due("1 at the tenth meal", slowWhen(9, 1), 10);
    due("35 at meal 340", slowWhen(0, 35), 341);
    due("35 at meal 348", slowWhen(8, 35), 349);
    due("35 at meal 349", slowWhen(9, 35), 350);
    due("36 at meal 350", slowWhen(0, 36), Edges.NONE);
    Edges.refused("36 at meal 350", () -> {
      PeaSpoons x = slow(0);
      x.child(3, 36);
      return x;
    }, y -> y.when(9), Edges.NONE);
  }

  static void promise20LikedFirst() {
    PeaSpoons x = new PeaSpoons();
    x.taste(Edges.TASTE, 3, 1);
    x.taste(Edges.PRESSED, 3, 1);
    x.food(3, 0, 44);
    due("50 behind one, 48 behind two", x.when(3), 1);
    x.food(3, 0, 43);
    due("49, 47, 53", x.when(3), 3);
    x.food(3, 0, 50);
    due("now", x.when(3), 0);
    x.taste(Edges.PAID, 0, 1);
    x.pudding(5);
    x.food(5, 0, 45);
    due("a pudding that nothing serves", x.when(5), 3);
  }

  static void promise20State() {
    lateBy(350, "when(0)", y -> y.when(0));
    due("at 99649", Edges.late(99649).when(0), 10);
    Edges.refused("at 99650, though it is liked now", () -> {
      PeaSpoons x = Edges.late(99650);
      x.food(0, 0, 99);
      return x;
    }, y -> y.when(0), Edges.STATE);
    Edges.refused("at 99650, though it is never", () -> Edges.late(99650), y -> y.when(1), Edges.STATE);
    lateBeyond("when(10)", y -> y.when(10));
  }

  // ---- 21. times

  static void promise21TastesAreThoseOfThePlan() {
    Edges.refused("without any", PeaSpoons::new, y -> y.times(0), Edges.BEYOND);
    due("the last of ten", slow(9).times(9), 50);
    due("10 of ten", slow(9).times(10), Edges.BEYOND);
    beyond("-1", y -> y.times(-1));
    beyond("7 of 7", y -> y.times(7));
    beyond("the least int", y -> y.times(Edges.LEAST));
    beyond("the greatest int", y -> y.times(Edges.MOST));
  }

  static void promise21InPlaceOfThePlan() {
    PeaSpoons x = slow(4);
    due("50 by 1", x.times(4), 50);
    x.meals(7);
    due("at a meal that serves another", x.times(4), 49);
    x.food(9, 0, 49);
    due("1 by 1", x.times(4), 1);
    x.food(9, 0, 50);
    due("now", x.times(4), 0);
    due("its own food is never", x.times(0), Edges.NONE);
  }

  static void promise21From0To99() {
    PeaSpoons x = slow(4);
    x.child(3, 99);
    due("99 by 1", x.times(4), 99);
    x.child(3, 98);
    due("98 by 1", x.times(4), 98);
    int seed = seedOfFirst(99);
    due("99 by a hidden one", hiddenTo(seed, 99).times(0), 99);
    seed = seedOfFirst(100);
    due("100 by a hidden one", hiddenTo(seed, 100).times(0), Edges.NONE);
    due("100 by the plan", hiddenTo(seed, 100).when(0), 100);
    int never = seed;
    Edges.refused("100", () -> hiddenTo(never, 100), y -> y.times(0), Edges.NONE);
  }

  private static PeaSpoons hiddenTo(int seed, int meals) {
    PeaSpoons x = new PeaSpoons();
    x.taste(Edges.HIDDEN, 0, 1);
    x.food(0, 0, 0);
    x.seed(seed);
    x.child(3, hiddenLike(seed, meals));
    return x;
  }

  /** Like of a food without bitter, from 0, behind hidden ones that are found by the rest 0. */
  private static int hiddenLike(int seed, int meals) {
    int z = seed;
    int like = 0;
    for (int i = 0; i < meals; i++) {
      z = Edges.nextZ(z);
      like = Edges.rest(z) == 0 ? Math.max(0, like - 10) : Math.min(99, like + 1);
    }
    return like;
  }

  /** A z by which the like is higher behind so many meals than ever ahead of it. */
  private static int seedOfFirst(int meals) {
    for (int seed = 1; seed < 1000000; seed++) {
      int top = 0;
      for (int i = 1; i < meals; i++) {
        top = Math.max(top, hiddenLike(seed, i));
      }
      if (hiddenLike(seed, meals) > top) {
        return seed;
      }
    }
    return 0;
  }

  static void promise21State() {
    lateBy(99, "times(0)", y -> y.times(0));
    due("at 99900", Edges.late(99900).times(0), 10);
    Edges.refused("at 99901, though it is liked now", () -> {
      PeaSpoons x = Edges.late(99901);
      x.food(0, 0, 99);
      return x;
    }, y -> y.times(0), Edges.STATE);
    lateBeyond("times(1)", y -> y.times(1));
  }

  // ---- 22, 23, 24. kindFor, foodFor, putFor

  private interface For {
    int on(PeaSpoons x, int taste, int n);
  }

  private static void tasteAndN(String name, For call) {
    Edges.refused(name + " without any", PeaSpoons::new, y -> call.on(y, 0, 1), Edges.BEYOND);
    int[][] bad = {{-1, 1}, {7, 1}, {0, 0}, {0, 176}, {0, -1}, {Edges.LEAST, 1}, {Edges.MOST, 1},
        {0, Edges.LEAST}, {0, Edges.MOST}};
    for (int[] b : bad) {
      beyond(name + "(" + b[0] + ", " + b[1] + ")", y -> call.on(y, b[0], b[1]));
    }
    Edges.asked(name + "(6, 1)", y -> call.on(y, 6, 1), call.on(Edges.rich(), 6, 1));
    Edges.asked(name + "(9, 175) of ten", Edges::full, y -> call.on(y, 9, 175), call.on(Edges.full(), 9, 175));
    Edges.refused(name + "(10, 175) of ten", Edges::full, y -> call.on(y, 10, 175), Edges.BEYOND);
    lateBy(175, name + "(0, 175)", y -> call.on(y, 0, 175));
    lateBy(1, name + "(0, 1)", y -> call.on(y, 0, 1));
    lateBeyond(name + "(1, 1)", y -> call.on(y, 1, 1));
    lateBeyond(name + "(0, 176)", y -> call.on(y, 0, 176));
    lateBeyond(name + "(0, 0)", y -> call.on(y, 0, 0));
  }

  static void promise22TasteNAndState() {
    tasteAndN("kindFor", (y, taste, n) -> y.kindFor(taste, n));
  }

  static void promise23TasteNAndState() {
    tasteAndN("foodFor", (y, taste, n) -> y.foodFor(taste, n));
  }

  static void promise24TasteNAndState() {
    tasteAndN("putFor", (y, taste, n) -> y.putFor(taste, n));
  }

  /** Seven tastes; the last one is served at meals 6, 13, .. 174: behind 175 meals the 25th time. */
  private static PeaSpoons seven() {
    PeaSpoons x = new PeaSpoons();
    x.child(0, 9);
    for (int food = 0; food < 10; food++) {
      x.food(food, 0, 0);
      x.food(food, 1, 9);
    }
    for (int i = 0; i < 6; i++) {
      x.taste(Edges.LICKED, 0, 1);
    }
    x.taste(Edges.LICKED, 4, 1);
    return x;
  }

  static void promise22BehindTheLastOf175Meals() {
    PeaSpoons x = seven();
    // 6 less 63 by 10 is 0: a grown one moves by 2, 25 times; a taste not at all
    x.food(4, 1, 7);
    due("50 by the 25th", x.kindFor(6, 175), Edges.GROWN);
    due("48 by the 24th: all alike", x.kindFor(6, 174), Edges.TASTE);
    due("as one it is not", x.tasteOf(6, 0), Edges.LICKED);
  }

  static void promise22OfSeveralTheLeastKind() {
    PeaSpoons x = new PeaSpoons();
    x.taste(Edges.HIDDEN, 3, 1);
    due("none brings any", x.kindFor(0, 1), Edges.TASTE);
    x.food(3, 0, 99);
    due("all bring one", x.kindFor(0, 1), Edges.TASTE);
    x.food(3, 0, 44);
    due("a taste, a copied and a grown one: 6 and more", x.kindFor(0, 1), Edges.TASTE);
    x.food(3, 0, 43);
    due("a grown one: 8", x.kindFor(0, 1), Edges.GROWN);
    x.friend(8);
    due("a copied one: 9, a grown one: 11", x.kindFor(0, 1), Edges.COPIED);
    x.food(3, 0, 40);
    due("a grown one: 11", x.kindFor(0, 1), Edges.GROWN);
    // 6 less 81 by 10 is -2: licked -1, pressed -10, paid -8, grown and copied 3 and 1; a hidden one 1 or found
    x.child(0, 9);
    x.food(3, 1, 9);
    x.friend(0);
    x.food(3, 0, 51);
    due("50 by a licked one, 51 by a grown one", x.kindFor(0, 1), Edges.LICKED);
    x.food(3, 0, 50);
    due("50 by a grown one", x.kindFor(0, 1), Edges.GROWN);
    x.food(3, 1, 8);
    x.food(3, 0, 49);
    // -1: licked 0, grown 1, and a hidden one 1, where the rest is 9
    x.seed(Edges.seedWithRest(9));
    due("50 by a grown one ahead of a hidden one", x.kindFor(0, 1), Edges.GROWN);
    x.food(3, 1, 9);
    x.food(3, 0, 20);
    x.pudding(9);
    x.food(9, 0, 45);
    due("a paid one's pudding", x.kindFor(0, 1), Edges.PAID);
  }

  static void promise22AlikeWhereTheTasteIsNotServedOrNoneMovesItUp() {
    PeaSpoons x = new PeaSpoons();
    x.taste(Edges.TASTE, 3, 1);
    x.taste(Edges.PRESSED, 5, 1);
    x.food(5, 0, 44);
    due("meal 0 serves the other one", x.kindFor(1, 1), Edges.TASTE);
    due("meal 1 serves it: as a taste", x.kindFor(1, 2), Edges.TASTE);
    x.food(5, 0, 42);
    due("meal 0 serves the other one", x.kindFor(1, 1), Edges.TASTE);
    due("meal 1 serves it: as a grown one", x.kindFor(1, 2), Edges.GROWN);
    // 6 less 81 by 10 is -2: a grown one 0, and a hidden one is always found
    x.child(0, 9);
    x.food(5, 1, 9);
    x.food(5, 0, 49);
    due("none moves it up", x.kindFor(1, 2), Edges.TASTE);
  }

  static void promise23BehindTheLastOf175Meals() {
    PeaSpoons x = seven();
    x.change(6, 0, Edges.TASTE);
    x.change(6, 1, 9);
    // 6 less 45 by 10 is 2, 25 times; the others -2
    x.food(4, 1, 5);
    due("50 by the 25th", x.foodFor(6, 175), 4);
    due("48 by the 24th: all alike", x.foodFor(6, 174), 0);
    due("which it has not", x.tasteOf(6, 1), 9);
  }

  static void promise23OfSeveralTheLeastFood() {
    PeaSpoons x = new PeaSpoons();
    x.taste(Edges.TASTE, 5, 1);
    due("none", x.foodFor(0, 1), 0);
    x.food(9, 0, 44);
    due("9 alone", x.foodFor(0, 1), 9);
    x.food(8, 0, 49);
    due("8 and 9", x.foodFor(0, 1), 8);
    x.food(0, 0, 44);
    due("0, 8 and 9", x.foodFor(0, 1), 0);
    x.food(0, 0, 43);
    due("8 and 9", x.foodFor(0, 1), 8);
    for (int food = 0; food < 10; food++) {
      x.food(food, 0, 99);
    }
    due("all", x.foodFor(0, 1), 0);
    x.change(0, 0, Edges.PRESSED);
    for (int food = 0; food < 9; food++) {
      x.food(food, 0, 51);
    }
    x.food(9, 0, 52);
    due("all but one would be lost", x.foodFor(0, 1), 9);
  }

  static void promise24TheLeastAndTheGreatestPut() {
    PeaSpoons x = new PeaSpoons();
    x.taste(Edges.LICKED, 5, 9);
    due("nothing is eaten: 1", x.putFor(0, 175), 1);
    x.change(0, 0, Edges.HIDDEN);
    x.seed(Edges.seedWithRest(9));
    due("all is eaten: 20", x.putFor(0, 1), 20);
    x.food(5, 1, 9);
    due("found: 1", x.putFor(0, 175), 1);
    due("put is as it was", x.tasteOf(0, 2), 9);
    due("pressed: 2 each", Edges.steady(2).putFor(0, 175), 2);
    due("paid: 5 each", Edges.steady(5).putFor(0, 175), 5);
    due("licked", Edges.steady(0).putFor(0, 175), 1);
  }

  static void promise24TheLeastOfThoseWithMostSpoons() {
    PeaSpoons x = new PeaSpoons();
    x.taste(Edges.TASTE, 5, 1);
    x.food(5, 0, 25);
    x.child(1, 80);
    // 25 * 100 a spoon of it: 16 bring 40000, 19 bring 47500, 20 bring 50000
    due("20", x.putFor(0, 1), 20);
    x.food(5, 0, 24);
    // 24 * 100 a spoon of it: 16 bring 38400, 17 bring 40800, 20 bring 48000
    due("17", x.putFor(0, 1), 17);
    x.food(5, 0, 5);
    // 5 * 100 a spoon of it: 20 bring 10000
    due("20 for 1", x.putFor(0, 1), 20);
    x.food(5, 0, 4);
    due("none by 8000", x.putFor(0, 1), 1);
    x.taste(Edges.TASTE, 6, 20);
    due("of the taste that isn't served", x.putFor(1, 1), 1);
  }

  // ---- 25. paid

  private static PeaSpoons paying() {
    PeaSpoons x = new PeaSpoons();
    for (int i = 0; i < 10; i++) {
      x.taste(i == 9 ? Edges.PAID : Edges.LICKED, 0, 1);
    }
    x.food(8, 0, 0);
    x.pudding(8);
    return x;
  }

  static void promise25From0To175Meals() {
    PeaSpoons x = paying();
    due("0", x.paid(0), 0);
    due("9", x.paid(9), 0);
    due("10", x.paid(10), 5);
    x.meals(5);
    // from meal 5 on: 9, 19, .. 169, and 179 as the last of 175
    due("174", x.paid(174), 85);
    due("175", x.paid(175), 90);
    beyond("-1", y -> y.paid(-1));
    beyond("176", y -> y.paid(176));
    beyond("the least int", y -> y.paid(Edges.LEAST));
    beyond("the greatest int", y -> y.paid(Edges.MOST));
  }

  static void promise25HeldAt99() {
    PeaSpoons x = paying();
    x.food(8, 0, 94);
    due("94", x.paid(10), 5);
    x.food(8, 0, 95);
    due("95", x.paid(10), 4);
    x.food(8, 0, 99);
    due("99", x.paid(175), 0);
  }

  static void promise25PressedItMovesItsFoodLess() {
    PeaSpoons x = new PeaSpoons();
    x.taste(Edges.PAID, 3, 1);
    x.pudding(3);
    // 0 and 5 more, or 2 less
    due("its own food", x.paid(1), 7);
    x.food(3, 0, 0);
    due("from 0", x.paid(1), 5);
    x.food(3, 0, 1);
    due("from 1: 6, or 0", x.paid(1), 6);
    x.change(0, 0, Edges.PRESSED);
    due("none is paid", x.paid(175), 0);
    due("no taste", pudding0().paid(175), 0);
  }

  static void promise25AllPaidOnesAndNoneElseArePressed() {
    PeaSpoons x = new PeaSpoons();
    x.taste(Edges.TASTE, 3, 1);
    x.taste(Edges.PAID, 4, 1);
    x.taste(Edges.HIDDEN, 3, 1);
    x.taste(Edges.PAID, 5, 1);
    x.pudding(3);
    due("the taste of the pudding stays one", x.paid(1), 0);
    due("the first paid one", x.paid(2), 5);
    due("the hidden one stays one", x.paid(3), 5);
    due("the last paid one", x.paid(4), 10);
    due("the kind is as it was", x.tasteOf(1, 0), Edges.PAID);
  }

  private static PeaSpoons pudding0() {
    PeaSpoons x = new PeaSpoons();
    x.pudding(0);
    return x;
  }

  static void promise25FindingsInTheirOrder() {
    Edges.refused("no pudding, 0", PeaSpoons::new, y -> y.paid(0), Edges.NONE);
    Edges.refused("no pudding, 175", PeaSpoons::new, y -> y.paid(175), Edges.NONE);
    Edges.refused("no pudding, 176", PeaSpoons::new, y -> y.paid(176), Edges.BEYOND);
    Edges.refused("no pudding, -1", PeaSpoons::new, y -> y.paid(-1), Edges.BEYOND);
    Edges.refused("no pudding, at 99825", () -> Edges.late(99825), y -> y.paid(175), Edges.STATE);
    Edges.refused("no pudding, at 99824", () -> Edges.late(99824), y -> y.paid(175), Edges.NONE);
    Edges.refused("no pudding, 0 at 99999", () -> Edges.late(99999), y -> y.paid(0), Edges.NONE);
    lateBy(175, "paid(175)", y -> y.paid(175));
    lateBy(1, "paid(1)", y -> y.paid(1));
    lateBeyond("paid(176)", y -> y.paid(176));
    due("a pudding, 0 at 99999", puddingAt(99999).paid(0), 0);
    due("a pudding, 1 at 99998", puddingAt(99998).paid(1), 0);
  }

  private static PeaSpoons puddingAt(int meal) {
    PeaSpoons x = Edges.late(meal);
    x.pudding(9);
    return x;
  }

  // ---- 26. worry

  static void promise26TheFirst35Meals() {
    due("a new object", new PeaSpoons().worry(), 35);
    PeaSpoons x = new PeaSpoons();
    x.meals(33);
    due("33 meals", x.worry(), 2);
    x.meals(1);
    due("34 meals", x.worry(), 1);
    x.meals(1);
    due("35 meals, short now", x.worry(), 1);
    due("70 spoons", Edges.steady(2).worry(), 35);
    Edges.refused("175 spoons", () -> Edges.steady(5), y -> y.worry(), Edges.NONE);
  }

  static void promise26AShortWeekNowIsNotOneAhead() {
    PeaSpoons x = Edges.steady(0);
    x.meals(16);
    x.change(0, 0, Edges.PAID);
    x.meals(18);
    x.change(0, 0, Edges.PRESSED);
    x.meals(1);
    // 16 nothings, 18 times 5, a 2: 92; then 97, 102, and more and more
    x.change(0, 0, Edges.PAID);
    due("97 behind one meal", x.worry(), 1);
    x.meals(1);
    due("short now", x.now(10), 1);
    due("102 behind one meal, and never below again", x.worry(), Edges.NONE);
  }

  static void promise26At99And100() {
    PeaSpoons x = Edges.steady(5);
    x.meals(20);
    x.change(0, 0, Edges.LICKED);
    // the 20 meals of 5 leave the book from behind 36 meals on: 100, then 95
    due("100 behind 15, 95 behind 16", x.worry(), 16);
    x.meals(15);
    due("100 now", x.now(8), 100);
    due("95 behind one", x.worry(), 1);
  }

  /**
   * Ten pressed ones of 3 spoons from like 64 on, 2 less each: with hunger 99 a like of 29 or more brings
   * 1 and 2 (3 * 29 * 119 = 10353), one of 28 or less 2 (3 * 28 * 119 = 9996). So meals 0 to 179 bring 3,
   * those from 180 on 2: 105 less 1 each, and the first 99 is behind meal 185, which is 186 meals from 0.
   */
  private static PeaSpoons weary(int meals) {
    PeaSpoons x = new PeaSpoons();
    for (int i = 0; i < 10; i++) {
      x.taste(Edges.PRESSED, i, 3);
      x.food(i, 0, 64);
    }
    x.child(1, 99);
    Edges.goOn(x, meals);
    return x;
  }

  static void promise26From1To175() {
    due("10 meals on: 176", weary(10).worry(), Edges.NONE);
    due("11 meals on: 175", weary(11).worry(), 175);
    due("12 meals on: 174", weary(12).worry(), 174);
    due("185 meals on", weary(185).worry(), 1);
    due("100 spoons then", weary(185).now(8), 100);
    Edges.refused("176", () -> weary(10), y -> y.worry(), Edges.NONE);
  }

  static void promise26State() {
    lateBy(175, "worry()", y -> y.worry());
    due("at 99824", Edges.late(99824).worry(), 1);
  }

  // ---- 27. order

  static void promise27NIs1To70() {
    beyond("0", y -> y.order(0));
    beyond("71", y -> y.order(71));
    beyond("-1", y -> y.order(-1));
    beyond("the least int", y -> y.order(Edges.LEAST));
    beyond("the greatest int", y -> y.order(Edges.MOST));
    PeaSpoons x = new PeaSpoons();
    for (int i = 0; i < 9; i++) {
      x.taste(i == 8 ? Edges.TASTE : Edges.LICKED, i == 8 ? 1 : 0, 1);
    }
    // nine tastes in 70 meals: places 0 to 6 are served 8 times, 7 and 8 but 7 times
    x.food(1, 0, 2);
    due("8 times 6 from 2", x.order(70), 8);
    x.food(1, 0, 1);
    due("8 times 6 from 1", x.order(70), Edges.NONE);
    x.food(1, 0, 8);
    due("7 times are enough", x.order(70), Edges.NONE);
    due("6 times of 62 meals are not: 0 is served 7 times", x.order(62), 8);
    due("6 times each in 54 meals", x.order(54), Edges.NONE);
  }

  static void promise27FewTastes() {
    Edges.refused("without any", PeaSpoons::new, y -> y.order(70), Edges.NONE);
    Edges.refused("one", () -> Edges.steady(5), y -> y.order(70), Edges.NONE);
    PeaSpoons x = new PeaSpoons();
    x.taste(Edges.LICKED, 0, 1);
    x.taste(Edges.TASTE, 1, 1);
    x.food(1, 0, 44);
    due("two", x.order(1), 1);
    due("two, both served", x.order(2), Edges.NONE);
  }

  static void promise27OnlyIfMoreThanAsItIs() {
    PeaSpoons x = new PeaSpoons();
    x.taste(Edges.TASTE, 0, 1);
    x.taste(Edges.TASTE, 1, 1);
    x.food(0, 0, 44);
    x.food(1, 0, 44);
    due("one for another", x.order(1), Edges.NONE);
    x.food(0, 0, 43);
    due("one for none", x.order(1), 1);
    x.food(0, 0, 50);
    due("two for one", x.order(1), 1);
  }

  static void promise27TenTimesTheLesserNumberAndTheOther() {
    PeaSpoons x = new PeaSpoons();
    for (int i = 0; i < 10; i++) {
      x.taste(i == 9 ? Edges.TASTE : Edges.LICKED, i == 9 ? 1 : 0, 1);
    }
    x.food(1, 0, 44);
    due("meal 0: 0 and 9", x.order(1), 9);
    x.meals(8);
    due("meal 8: 8 and 9", x.order(1), 89);
    due("meals 8 and 9: served as it is", x.order(2), Edges.NONE);
    x.meals(9);
    // meal 17 serves 7; the ninth one moved food 1 already
    x.food(1, 0, 44);
    due("meals 17 and 18: 7 and 9, or 8 and 9", x.order(2), 79);
    x.taste(0, 0, 1);
    due("ten at most", x.count(0), 10);
  }

  static void promise27OfSeveralTheLeast() {
    PeaSpoons x = new PeaSpoons();
    x.taste(Edges.LICKED, 0, 1);
    x.taste(Edges.LICKED, 0, 1);
    x.taste(Edges.TASTE, 2, 1);
    x.taste(Edges.TASTE, 3, 1);
    x.food(2, 0, 44);
    x.food(3, 0, 44);
    due("0 and 2, 0 and 3, 1 and 2, 1 and 3", x.order(2), 2);
    x.food(2, 0, 20);
    due("0 and 3, 1 and 3", x.order(2), 3);
    x.food(0, 0, 47);
    // 3 more by a licked one: it must be served once; 0 and 3 leave 1 there
    due("0 and 3 still", x.order(2), 3);
    due("1 meal: as it is 0 is liked, none more", x.order(1), Edges.NONE);
    x.food(0, 0, 44);
    // 6 more by two licked ones; one of them moved is as many as it is
    due("one for another", x.order(2), Edges.NONE);
  }

  static void promise27MostNotTheFirstThatIsMore() {
    PeaSpoons x = new PeaSpoons();
    x.taste(Edges.PRESSED, 5, 1);
    x.taste(Edges.LICKED, 0, 1);
    x.taste(Edges.TASTE, 2, 1);
    x.food(5, 0, 50);
    x.food(2, 0, 44);
    due("0 and 1: food 5 stays; 0 and 2: food 2 too", x.order(1), 2);
    x.food(2, 0, 43);
    due("0 and 1: food 5 stays; 0 and 2: no more", x.order(1), 1);
    x.food(5, 0, 52);
    due("food 5 stays anyhow", x.order(1), Edges.NONE);
  }

  static void promise27State() {
    lateBy(70, "order(70)", y -> y.order(70));
    lateBy(1, "order(1)", y -> y.order(1));
    lateBeyond("order(71)", y -> y.order(71));
    lateBeyond("order(0)", y -> y.order(0));
  }

  // ---- 28. chance

  static void promise28FoodNAndTAtTheirBounds() {
    int[][] bad = {{-1, 1, 0}, {10, 1, 0}, {0, 0, 0}, {0, 21, 0}, {0, 1, -1}, {0, 1, 71}, {Edges.LEAST, 1, 0},
        {Edges.MOST, 1, 0}, {0, Edges.LEAST, 0}, {0, Edges.MOST, 0}, {0, 1, Edges.LEAST}, {0, 1, Edges.MOST}};
    for (int[] b : bad) {
      beyond("chance(" + b[0] + ", " + b[1] + ", " + b[2] + ")", y -> y.chance(b[0], b[1], b[2]));
    }
    PeaSpoons x = new PeaSpoons();
    x.food(0, 0, 50);
    x.food(9, 0, 50);
    due("food 0, once, no meal", x.chance(0, 1, 0), 1);
    due("food 9, 20 times, 70 meals", x.chance(9, 20, 70), 20);
    due("food 8", x.chance(8, 20, 70), 0);
  }

  static void promise28FromNowEachTime() {
    PeaSpoons x = new PeaSpoons();
    x.taste(Edges.TASTE, 4, 1);
    due("20 and 4 times 6", x.chance(4, 20, 4), 0);
    due("20 and 5 times 6", x.chance(4, 20, 5), 20);
    due("z: no draw", x.count(4), 1);
    due("meal", x.now(0), 0);
    x.food(4, 0, 0);
    x.child(3, 70);
    x.child(0, 9);
    x.food(4, 1, 6);
    // moved by 1 each
    due("70 times 1", x.chance(4, 3, 70), 3);
    due("69 times 1", x.chance(4, 3, 69), 0);
  }

  static void promise28ZStaysAsTheLastOneLeavesIt() {
    PeaSpoons x = new PeaSpoons();
    x.taste(Edges.HIDDEN, 4, 1);
    x.food(4, 0, 49);
    x.food(4, 1, 4);
    int z = 1;
    int often = 0;
    for (int i = 0; i < 20; i++) {
      z = Edges.nextZ(z);
      often += Edges.rest(z) <= 4 ? 0 : 1;
    }
    due("20 times 1", x.chance(4, 20, 1), often);
    due("z behind 20 draws", x.count(4), z);
    due("like", x.foodOf(4, 0), 49);
    due("tried", x.foodOf(4, 2), 0);
    due("meal", x.now(0), 0);
    x.chance(4, 1, 70);
    for (int i = 0; i < 70; i++) {
      z = Edges.nextZ(z);
    }
    due("z behind 70 more", x.count(4), z);
    x.chance(4, 20, 0);
    due("z behind no draw", x.count(4), z);
    x.chance(3, 20, 70);
    for (int i = 0; i < 1400; i++) {
      z = Edges.nextZ(z);
    }
    due("z behind 1400 more, of another food", x.count(4), z);
  }

  static void promise28NothingButZChanges() {
    PeaSpoons x = Edges.rich();
    PeaSpoons y = Edges.rich();
    x.chance(6, 20, 70);
    due("z went on", x.count(4) == 77 ? 1 : 0, 0);
    y.seed(x.count(4));
    Edges.due("all", Edges.everything(x), Edges.everything(y));
  }

  static void promise28State() {
    lateBy(70, "chance(0, 20, 70)", y -> y.chance(0, 20, 70));
    lateBy(1, "chance(0, 1, 1)", y -> y.chance(0, 1, 1));
    lateBy(0, "chance(0, 20, 0)", y -> y.chance(0, 20, 0));
    lateBeyond("chance(10, 20, 70)", y -> y.chance(10, 20, 70));
    lateBeyond("chance(0, 21, 70)", y -> y.chance(0, 21, 70));
    lateBeyond("chance(0, 20, 71)", y -> y.chance(0, 20, 71));
  }

  // ---- 29. seed

  static void promise29AnyInt() {
    PeaSpoons x = new PeaSpoons();
    due("to the least", x.seed(Edges.LEAST), 1);
    due("to the greatest", x.seed(Edges.MOST), Edges.LEAST);
    due("to 0", x.seed(0), Edges.MOST);
    due("to -1", x.seed(-1), 0);
    due("to a finding's number", x.seed(Edges.BEYOND), -1);
    due("which is none", x.seed(5), Edges.BEYOND);
    due("z", x.count(4), 5);
    due("findings", x.status(-1), 0);
    PeaSpoons y = Edges.rich();
    y.seed(77);
    Edges.due("all but z", Edges.everything(y), Edges.everything(Edges.rich()));
  }
}
