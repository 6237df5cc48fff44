/** The bounds that promises 1 to 8 name. */
public final class FoodsEdgeTest {
  public static void main(String[] args) throws Exception {
    Edges.run(FoodsEdgeTest.class);
  }

  private static void due(String what, long got, long want) {
    Edges.due(what, got, want);
  }

  private static void beyond(String what, Edges.Call call) {
    Edges.refused(what, call, Edges.BEYOND);
  }

  // ---- 1. a new object

  static void promise01AllAsAtFirst() {
    PeaSpoons x = new PeaSpoons();
    due("findings", x.status(-1), 0);
    for (int food = 0; food < 10; food++) {
      due("like", x.foodOf(food, 0), 20);
      due("bitter", x.foodOf(food, 1), 0);
      due("tried", x.foodOf(food, 2), 0);
      due("liked", x.foodOf(food, 3), 0);
    }
    int[] now = {0, 0, 3, 40, 1500, 50, -1, 0, 0, 0, 0};
    for (int what = 0; what < now.length; what++) {
      due("now(" + what + ")", x.now(what), now[what]);
    }
    int[] counts = {0, 0, 0, 0, 1, 0};
    for (int what = 0; what < counts.length; what++) {
      due("count(" + what + ")", x.count(what), counts[what]);
    }
    due("findings", x.status(-1), 0);
  }

  static void promise01ThePlanIsEmpty() {
    PeaSpoons x = new PeaSpoons();
    due("tasteOf", x.tasteOf(0, 0), Edges.BEYOND);
    due("drop", x.drop(), Edges.NONE);
    due("the first taste", x.taste(0, 0, 1), 0);
  }

  static void promise01TheTapeIsEmpty() {
    due("wipe", new PeaSpoons().wipe(), 0);
    due("text", new PeaSpoons().text(), -1);
    due("feed", new PeaSpoons().feed(0, 1), 1);
  }

  static void promise01NoImageIsKept() {
    due("undo", new PeaSpoons().undo(), Edges.NONE);
    due("tear", new PeaSpoons().tear(), 0);
  }

  static void promise01SpotsHoldNothingAndSheetsAreMissing() {
    PeaSpoons x = new PeaSpoons();
    for (int spot = 0; spot < 10; spot++) {
      due("as", x.as(spot, 0), Edges.MISSING);
    }
    for (int s = 0; s < 4; s++) {
      due("load", x.load(s), Edges.MISSING);
    }
    due("book", x.book(0), Edges.BEYOND);
  }

  // ---- 2. food

  static void promise02LikeIs0To99() {
    PeaSpoons x = new PeaSpoons();
    due("to 0", x.food(5, 0, 0), 20);
    due("to 99", x.food(5, 0, 99), 0);
    due("to 98", x.food(5, 0, 98), 99);
    due("is", x.foodOf(5, 0), 98);
    beyond("-1", y -> y.food(1, 0, -1));
    beyond("100", y -> y.food(1, 0, 100));
    beyond("the least int", y -> y.food(1, 0, Edges.LEAST));
    beyond("the greatest int", y -> y.food(1, 0, Edges.MOST));
  }

  static void promise02BitterIs0To9() {
    PeaSpoons x = new PeaSpoons();
    due("to 9", x.food(5, 1, 9), 0);
    due("to 0", x.food(5, 1, 0), 9);
    due("to 8", x.food(5, 1, 8), 0);
    due("is", x.foodOf(5, 1), 8);
    due("like is as it was", x.foodOf(5, 0), 20);
    beyond("-1", y -> y.food(1, 1, -1));
    beyond("10", y -> y.food(1, 1, 10));
    beyond("the least int", y -> y.food(1, 1, Edges.LEAST));
    beyond("the greatest int", y -> y.food(1, 1, Edges.MOST));
  }

  static void promise02FoodsAre0To9() {
    PeaSpoons x = new PeaSpoons();
    due("food 0", x.food(0, 0, 1), 20);
    due("food 9", x.food(9, 0, 2), 20);
    due("food 0 is", x.foodOf(0, 0), 1);
    due("food 9 is", x.foodOf(9, 0), 2);
    due("food 1 is", x.foodOf(1, 0), 20);
    due("food 8 is", x.foodOf(8, 0), 20);
    beyond("-1", y -> y.food(-1, 0, 1));
    beyond("10", y -> y.food(10, 1, 1));
    beyond("the least int", y -> y.food(Edges.LEAST, 0, 1));
    beyond("the greatest int", y -> y.food(Edges.MOST, 0, 1));
  }

  static void promise02WhatIs0Or1() {
    beyond("-1", y -> y.food(1, -1, 1));
    beyond("2, TRIED", y -> y.food(1, 2, 1));
    beyond("the least int", y -> y.food(1, Edges.LEAST, 1));
    beyond("the greatest int", y -> y.food(1, Edges.MOST, 1));
  }

  // ---- 3. foodOf

  static void promise03FoodsAre0To9() {
    Edges.asked("food 0", y -> y.foodOf(0, 1), 0);
    Edges.asked("food 9", y -> y.foodOf(9, 3), 1);
    beyond("-1", y -> y.foodOf(-1, 0));
    beyond("10", y -> y.foodOf(10, 0));
    beyond("the least int", y -> y.foodOf(Edges.LEAST, 0));
    beyond("the greatest int", y -> y.foodOf(Edges.MOST, 0));
  }

  static void promise03WhatIs0To3() {
    PeaSpoons x = new PeaSpoons();
    x.taste(Edges.LICKED, 4, 1);
    x.meals(2);
    x.food(4, 0, 50);
    x.food(4, 1, 7);
    due("like", x.foodOf(4, 0), 50);
    due("bitter", x.foodOf(4, 1), 7);
    due("tried", x.foodOf(4, 2), 2);
    due("liked", x.foodOf(4, 3), 1);
    beyond("-1", y -> y.foodOf(1, -1));
    beyond("4", y -> y.foodOf(1, 4));
    beyond("the greatest int", y -> y.foodOf(1, Edges.MOST));
  }

  static void promise03LikedIs1FromLineOnElse0() {
    PeaSpoons x = new PeaSpoons();
    x.food(4, 0, 49);
    due("49", x.foodOf(4, 3), 0);
    x.food(4, 0, 50);
    due("50", x.foodOf(4, 3), 1);
    x.food(4, 0, 0);
    due("0", x.foodOf(4, 3), 0);
    x.food(4, 0, 99);
    due("99", x.foodOf(4, 3), 1);
    x.child(3, 99);
    due("99 at line 99", x.foodOf(4, 3), 1);
    x.food(4, 0, 98);
    due("98 at line 99", x.foodOf(4, 3), 0);
    x.child(3, 1);
    x.food(4, 0, 0);
    due("0 at line 1", x.foodOf(4, 3), 0);
  }

  // ---- 4. child

  private static void part(int what, int first, int least, int most) {
    PeaSpoons x = new PeaSpoons();
    due("part " + what + " to the least", x.child(what, least), first);
    due("is", x.now(2 + what), least);
    due("part " + what + " to the most", x.child(what, most), least);
    due("is", x.now(2 + what), most);
    int[] firsts = {3, 40, 1500, 50};
    for (int other = 0; other < 4; other++) {
      if (other != what) {
        due("part " + other + " is as at first", x.now(2 + other), firsts[other]);
      }
    }
    beyond("part " + what + ", one below", y -> y.child(what, least - 1));
    beyond("part " + what + ", one above", y -> y.child(what, most + 1));
    beyond("part " + what + ", the least int", y -> y.child(what, Edges.LEAST));
    beyond("part " + what + ", the greatest int", y -> y.child(what, Edges.MOST));
  }

  static void promise04BentIs0To9() {
    part(0, 3, 0, 9);
  }

  static void promise04HungerIs0To99() {
    part(1, 40, 0, 99);
  }

  static void promise04WeightIs0To9999() {
    part(2, 1500, 0, 9999);
  }

  static void promise04LineIs1To99() {
    part(3, 50, 1, 99);
  }

  static void promise04PartsAre0To3() {
    beyond("-1", y -> y.child(-1, 1));
    beyond("4", y -> y.child(4, 1));
    beyond("-1 of part -1", y -> y.child(-1, -1));
    beyond("-1 of part 4", y -> y.child(4, -1));
    beyond("the least int", y -> y.child(Edges.LEAST, 1));
    beyond("the greatest int", y -> y.child(Edges.MOST, 1));
  }

  // ---- 5. pudding

  static void promise05PuddingIsAFoodOrNone() {
    PeaSpoons x = new PeaSpoons();
    due("none again", x.pudding(-1), -1);
    due("food 0", x.pudding(0), -1);
    due("food 9", x.pudding(9), 0);
    due("now", x.now(6), 9);
    due("none", x.pudding(-1), 9);
    due("now", x.now(6), -1);
    beyond("-2", y -> y.pudding(-2));
    beyond("10", y -> y.pudding(10));
    beyond("the least int", y -> y.pudding(Edges.LEAST));
    beyond("the greatest int", y -> y.pudding(Edges.MOST));
  }

  // ---- 6. friend

  static void promise06FriendIsASetOf0To1023() {
    PeaSpoons x = new PeaSpoons();
    due("all", x.friend(1023), 0);
    due("none", x.friend(0), 1023);
    due("food 9 alone", x.friend(512), 0);
    due("food 0 alone", x.friend(1), 512);
    due("now", x.now(7), 1);
    beyond("-1", y -> y.friend(-1));
    beyond("1024", y -> y.friend(1024));
    beyond("the least int", y -> y.friend(Edges.LEAST));
    beyond("the greatest int", y -> y.friend(Edges.MOST));
  }

  // ---- 7. liked

  static void promise07NoneAllAndEachFood() {
    Edges.asked("none", PeaSpoons::new, y -> y.liked(), 0);
    PeaSpoons x = new PeaSpoons();
    int set = 0;
    for (int food = 0; food < 10; food++) {
      x.food(food, 0, 49);
      due("49 of food " + food, x.liked(), set);
      x.food(food, 0, 50);
      set += 1 << food;
      due("50 of food " + food, x.liked(), set);
    }
    due("all", set, 1023);
    x.child(3, 51);
    due("line above", x.liked(), 0);
    x.child(3, 1);
    due("line 1", x.liked(), 1023);
    x.food(3, 0, 0);
    due("like 0 at line 1", x.liked(), 1023 - 8);
  }

  // ---- 8. next

  static void promise08TheGreatestLikeBelowLine() {
    PeaSpoons x = new PeaSpoons();
    x.food(3, 0, 50);
    x.food(7, 0, 49);
    due("49 of 50", x.next(), 7);
    x.food(7, 0, 50);
    x.food(9, 0, 21);
    due("21, where two are liked", x.next(), 9);
    x.food(0, 0, 22);
    due("22", x.next(), 0);
    x.child(3, 51);
    due("50, the line is 51: the lesser of two", x.next(), 3);
  }

  static void promise08OfSeveralTheLeastNumber() {
    PeaSpoons x = new PeaSpoons();
    due("all alike", x.next(), 0);
    x.food(8, 0, 30);
    x.food(4, 0, 30);
    due("4 and 8", x.next(), 4);
    for (int food = 0; food < 10; food++) {
      x.food(food, 0, 0);
    }
    due("all 0", x.next(), 0);
  }

  static void promise08NoneIfAllAreLiked() {
    Edges.Scene all = () -> {
      PeaSpoons x = new PeaSpoons();
      x.child(3, 20);
      return x;
    };
    Edges.refused("all at the line", all, y -> y.next(), Edges.NONE);
    PeaSpoons x = all.made();
    x.food(9, 0, 19);
    due("the last one isn't", x.next(), 9);
    x.food(9, 0, 0);
    due("the last one isn't at all", x.next(), 9);
  }
}
