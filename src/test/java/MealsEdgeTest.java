import java.util.Arrays;

/** The bounds that promises 14 to 18 name. */
public final class MealsEdgeTest {
  public static void main(String[] args) throws Exception {
    Edges.run(MealsEdgeTest.class);
  }

  private static void due(String what, long got, long want) {
    Edges.due(what, got, want);
  }

  private static void beyond(String what, Edges.Call call) {
    Edges.refused(what, call, Edges.BEYOND);
  }

  // ---- 14. meals

  static void promise14OneTo70() {
    PeaSpoons x = Edges.steady(5);
    due("1", x.meals(1), 5);
    due("meal", x.now(0), 1);
    due("70", x.meals(70), 350);
    due("meal", x.now(0), 71);
    due("tried", x.foodOf(0, 2), 71);
    beyond("0", y -> y.meals(0));
    beyond("71", y -> y.meals(71));
    beyond("-1", y -> y.meals(-1));
    beyond("the least int", y -> y.meals(Edges.LEAST));
    beyond("the greatest int", y -> y.meals(Edges.MOST));
  }

  static void promise14AsManyAtOnceAsOneByOne() {
    PeaSpoons x = Edges.rich();
    PeaSpoons y = Edges.rich();
    int spoons = 0;
    for (int i = 0; i < 70; i++) {
      spoons += x.meals(1);
    }
    due("70", y.meals(70), spoons);
    Edges.due("all", Edges.everything(y), Edges.everything(x));
  }

  static void promise14StateIfMealWouldBeAbove99999() {
    PeaSpoons x = Edges.late(99929);
    due("70 of 70", x.meals(70), 0);
    due("meal", x.now(0), 99999);
    due("day", x.now(1), 19999);
    Edges.refused("70 of 69", () -> Edges.late(99930), y -> y.meals(70), Edges.STATE);
    Edges.refused("1 of none", () -> Edges.late(99999), y -> y.meals(1), Edges.STATE);
    due("69 of 69", Edges.late(99930).meals(69), 0);
    due("1 of 1", Edges.late(99998).meals(1), 0);
  }

  static void promise14BeyondIsToldAheadOfState() {
    Edges.refused("0", () -> Edges.late(99999), y -> y.meals(0), Edges.BEYOND);
    Edges.refused("71", () -> Edges.late(99999), y -> y.meals(71), Edges.BEYOND);
    Edges.refused("the greatest int", () -> Edges.late(99999), y -> y.meals(Edges.MOST), Edges.BEYOND);
  }

  // ---- 15. now

  static void promise15WhatIs0To10() {
    PeaSpoons x = Edges.served(1, 2, 3, 4, 5, 6);
    x.child(0, 8);
    x.child(1, 71);
    x.child(2, 4321);
    x.child(3, 65);
    x.pudding(7);
    x.friend(513);
    int[] wants = {6, 1, 8, 71, 4321, 65, 7, 513, 21, 6, 0};
    for (int what = 0; what < 11; what++) {
      due("now(" + what + ")", x.now(what), wants[what]);
    }
    beyond("-1", y -> y.now(-1));
    beyond("11", y -> y.now(11));
    beyond("the least int", y -> y.now(Edges.LEAST));
    beyond("the greatest int", y -> y.now(Edges.MOST));
  }

  static void promise15SpoonsAndMealsOfTheWeekAtItsBounds() {
    PeaSpoons x = Edges.steady(5);
    due("spoons of none", x.now(8), 0);
    due("none", x.now(9), 0);
    x.meals(1);
    due("spoons of one", x.now(8), 5);
    due("one", x.now(9), 1);
    x.meals(33);
    due("spoons of 34", x.now(8), 170);
    due("34", x.now(9), 34);
    x.meals(1);
    due("spoons of 35", x.now(8), 175);
    due("35", x.now(9), 35);
    x.change(0, 0, Edges.LICKED);
    x.meals(1);
    due("spoons of the latest 35", x.now(8), 170);
    due("35", x.now(9), 35);
  }

  static void promise15ShortIs1Else0() {
    PeaSpoons x = Edges.steady(0);
    x.meals(15);
    x.change(0, 0, Edges.PAID);
    x.meals(19);
    due("34 meals, 95 spoons", x.now(10), 0);
    x.change(0, 0, Edges.LICKED);
    x.meals(1);
    due("35 meals, 95 spoons", x.now(10), 1);
    x.change(0, 0, Edges.PAID);
    x.meals(1);
    due("100 spoons", x.now(8), 100);
    due("35 meals, 100 spoons", x.now(10), 0);
    x.meals(1);
    due("105", x.now(10), 0);
  }

  // ---- 16. book

  static void promise16FromTheLatestToTheEarliest() {
    PeaSpoons x = new PeaSpoons();
    due("0 of none", x.book(0), Edges.BEYOND);
    x = Edges.served(7);
    due("0 of one", x.book(0), 7);
    due("1 of one", x.book(1), Edges.BEYOND);
    x = Edges.served(7, 0, 20);
    due("0 of three", x.book(0), 20);
    due("1 of three", x.book(1), 0);
    due("2 of three", x.book(2), 7);
    due("3 of three", x.book(3), Edges.BEYOND);
    Edges.refused("0 of none", PeaSpoons::new, y -> y.book(0), Edges.BEYOND);
    beyond("9 of 9", y -> y.book(9));
    beyond("-1", y -> y.book(-1));
    beyond("the least int", y -> y.book(Edges.LEAST));
    beyond("the greatest int", y -> y.book(Edges.MOST));
  }

  /** Meal m has 1 + m by 20 spoons. */
  private static PeaSpoons counted(int meals) {
    int[] spoons = new int[meals];
    for (int i = 0; i < meals; i++) {
      spoons[i] = 1 + i % 20;
    }
    return Edges.served(spoons);
  }

  static void promise16ThirtyFiveAtMost() {
    int[] all = {34, 35, 36, 70, 71};
    for (int meals : all) {
      PeaSpoons x = counted(meals);
      int booked = Math.min(35, meals);
      for (int i = 0; i < booked; i++) {
        due("book(" + i + ") of " + meals, x.book(i), 1 + (meals - 1 - i) % 20);
      }
      due("book(" + booked + ") of " + meals, x.book(booked), Edges.BEYOND);
    }
    Edges.refused("35", Edges::full, y -> y.book(35), Edges.BEYOND);
  }

  // ---- 17. day

  private static void days(String what, PeaSpoons x, int... wants) {
    for (int ago = 0; ago < 8; ago++) {
      due(what + ", day(" + ago + ")", x.day(ago), ago < wants.length ? wants[ago] : 0);
    }
  }

  static void promise17DaysAreThoseOfTheLatestMealAndAhead() {
    days("one meal", Edges.served(9), 9);
    days("four meals", Edges.served(1, 2, 3, 4), 10);
    // the day of MEAL is 1 by now, but the latest meal was on day 0
    days("five meals", Edges.served(1, 2, 3, 4, 5), 15);
    days("six meals", Edges.served(1, 2, 3, 4, 5, 6), 6, 15);
    days("ten meals", Edges.served(1, 2, 3, 4, 5, 6, 7, 8, 9, 10), 40, 15);
    days("eleven meals", Edges.served(1, 2, 3, 4, 5, 6, 7, 8, 9, 10, 0), 0, 40, 15);
  }

  static void promise17OnlyMealsOfTheBook() {
    PeaSpoons x = Edges.steady(2);
    x.meals(35);
    days("35 meals: 7 whole days", x, 10, 10, 10, 10, 10, 10, 10, 0);
    x.meals(1);
    days("36 meals: the last 4 of day 0", x, 2, 10, 10, 10, 10, 10, 10, 8);
    x.meals(3);
    days("39 meals: the last one of day 0", x, 8, 10, 10, 10, 10, 10, 10, 2);
    x.meals(1);
    days("40 meals: 7 whole days", x, 10, 10, 10, 10, 10, 10, 10, 0);
    x.meals(31);
    days("71 meals", x, 2, 10, 10, 10, 10, 10, 10, 8);
  }

  static void promise17AgoIs0To7() {
    beyond("-1", y -> y.day(-1));
    beyond("8", y -> y.day(8));
    beyond("the least int", y -> y.day(Edges.LEAST));
    beyond("the greatest int", y -> y.day(Edges.MOST));
  }

  static void promise17NoneWithoutAMealButBeyondAheadOfIt() {
    Edges.refused("0", PeaSpoons::new, y -> y.day(0), Edges.NONE);
    Edges.refused("7", PeaSpoons::new, y -> y.day(7), Edges.NONE);
    Edges.refused("-1", PeaSpoons::new, y -> y.day(-1), Edges.BEYOND);
    Edges.refused("8", PeaSpoons::new, y -> y.day(8), Edges.BEYOND);
  }

  // ---- 18. spread

  static void promise18TheLeastAndTheMost() {
    due("one meal", Edges.served(20).spread(), 0);
    due("two alike", Edges.served(3, 3).spread(), 0);
    due("0 and 20", Edges.served(0, 20).spread(), 20);
    due("20 and 0", Edges.served(20, 0).spread(), 20);
    due("the most in the middle", Edges.served(5, 9, 6).spread(), 4);
    due("the least in the middle", Edges.served(9, 4, 8).spread(), 5);
    due("nothing eaten", Edges.served(0, 0, 0).spread(), 0);
  }

  static void promise18OnlyMealsOfTheBook() {
    int[] spoons = new int[36];
    Arrays.fill(spoons, 4);
    spoons[0] = 17;
    due("the first of 35", Edges.served(Arrays.copyOf(spoons, 35)).spread(), 13);
    due("the first of 36", Edges.served(spoons).spread(), 0);
    spoons[1] = 1;
    due("the second of 36", Edges.served(spoons).spread(), 3);
  }

  static void promise18NoneWithoutAMeal() {
    Edges.refused("a new object", PeaSpoons::new, y -> y.spread(), Edges.NONE);
    Edges.asked("one meal", () -> Edges.served(20), y -> y.spread(), 0);
  }
}
