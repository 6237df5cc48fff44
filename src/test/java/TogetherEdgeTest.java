/**
 * Where two promises work together: what an image keeps, what goes on ahead, what a spot holds, what
 * status() counts. Each test bears the number of the promise whose words it holds to account.
 */
public final class TogetherEdgeTest {
  public static void main(String[] args) throws Exception {
    Edges.run(TogetherEdgeTest.class);
  }

  private static void due(String what, long got, long want) {
    Edges.due(what, got, want);
  }

  /** All of what goes on ahead, but chance(), which moves z; sheet 3 is made for judge(). */
  private static void lookAhead(PeaSpoons x) {
    x.ahead(350, 0);
    x.ahead(7, 13);
    x.when(8);
    x.times(0);
    x.kindFor(0, 175);
    x.foodFor(1, 30);
    x.putFor(1, 9);
    x.paid(12);
    x.worry();
    x.order(11);
    x.judge(3);
  }

  /** As Edges.rich(), with a sheet for judge() whose first two numbers are those of the next meals. */
  private static PeaSpoons watched() {
    PeaSpoons x = Edges.rich();
    PeaSpoons other = Edges.rich();
    x.sheet(3, 8, 3);
    x.write(3, 0, other.meals(1));
    x.write(3, 1, other.meals(1));
    x.write(3, 2, -1);
    return x;
  }

  /** Food 3 with a like of 20 and no bitter: 6 more by each meal, so 50 behind 5 of them. */
  private static PeaSpoons climbing() {
    PeaSpoons x = new PeaSpoons();
    x.taste(Edges.TASTE, 3, 10);
    return x;
  }

  /** One hidden taste of food 0, 7 spoons, found by a rest of 0 alone. */
  private static PeaSpoons hiding(int z) {
    PeaSpoons x = new PeaSpoons();
    x.taste(Edges.HIDDEN, 0, 7);
    x.seed(z);
    return x;
  }

  // ---- what an image keeps

  static void promise40WhatGoesOnAheadIsNotKept() {
    PeaSpoons x = watched();
    x.image();
    String before = Edges.present(x);
    lookAhead(x);
    Edges.due("as it was", Edges.present(x), before);
    x.meals(70);
    due("undo", x.undo(), 9);
    Edges.due("as it was kept", Edges.present(x), before);
  }

  static void promise40ATextBehindItIsNotKeptAndWhatItToldAheadIs() {
    PeaSpoons x = new PeaSpoons();
    due("told", Edges.tell(x, "food 4 like 60 bitter 1;line 61;grown 4 put 9;pudding 4;friend 4"), 5);
    x.image();
    due("told", Edges.tell(x, "food 4 like 70 bitter 2;line 71;hidden 5;pudding 5;friend 5"), 5);
    due("undo", x.undo(), 0);
    due("like", x.foodOf(4, 0), 60);
    due("bitter", x.foodOf(4, 1), 1);
    due("line", x.now(5), 61);
    due("pudding", x.now(6), 4);
    due("friend", x.now(7), 16);
    due("tastes", x.count(0), 1);
    due("kind", x.tasteOf(0, 0), Edges.GROWN);
    due("put", x.tasteOf(0, 2), 9);
  }

  static void promise40TheTapeGoesOnThroughUndo() {
    PeaSpoons x = new PeaSpoons();
    Edges.feed(x, "li");
    x.image();
    Edges.feed(x, "ne ");
    due("undo", x.undo(), 0);
    due("bytes", x.count(3), 5);
    Edges.feed(x, "7");
    due("text", x.text(), 1);
    due("line", x.now(5), 7);
    due("undo", x.undo(), 0);
    due("the line is kept", x.now(5), 50);
    due("the tape stays empty", x.wipe(), 0);
  }

  static void promise40SheetsGoOnThroughUndoAndWhatTheyLoadedDoesNot() {
    PeaSpoons x = new PeaSpoons();
    x.sheet(0, 16, 2);
    x.write(0, 0, 90);
    x.image();
    x.write(0, 1, 91);
    due("load", x.load(0), 2);
    due("undo", x.undo(), 0);
    due("like 0", x.foodOf(0, 0), 20);
    due("like 1", x.foodOf(1, 0), 20);
    due("load again", x.load(0), 2);
    due("like 1", x.foodOf(1, 0), 91);
    x.image();
    due("missing", x.sheet(0, 0, 0), 0);
    x.undo();
    due("missing still", x.load(0), Edges.MISSING);
  }

  static void promise40ZIsKeptAlsoFromChance() {
    PeaSpoons x = hiding(1);
    x.image();
    due("never liked", x.chance(0, 3, 2), 0);
    int z = 1;
    for (int draw = 0; draw < 6; draw++) {
      z = Edges.nextZ(z);
    }
    due("six draws", x.count(4), z);
    x.undo();
    due("z", x.count(4), 1);
    due("the draws come again", x.meals(1), 7);
    due("one draw", x.count(4), Edges.nextZ(1));
  }

  static void promise40StatusIsNotKept() {
    PeaSpoons x = new PeaSpoons();
    x.drop();
    x.image();
    x.food(10, 0, 0);
    x.as(0, 0);
    due("undo", x.undo(), 0);
    due("all", x.status(-1), 3);
    x.tear();
    due("undo", x.undo(), Edges.NONE);
    due("none", x.status(3), 2);
    due("all", x.status(-1), 4);
  }

  // ---- what undo brings

  static void promise41AheadGoesOnFromWhatWasKept() {
    PeaSpoons x = climbing();
    x.image();
    due("liked behind 5", x.when(3), 5);
    x.meals(2);
    due("liked behind 3", x.when(3), 3);
    due("times", x.times(0), 3);
    x.undo();
    due("liked behind 5 again", x.when(3), 5);
    due("times", x.times(0), 5);
    due("like behind 5", x.ahead(5, 4 + 3), 50);
  }

  static void promise41TheBookAndTheWeekAreThoseKept() {
    PeaSpoons x = Edges.served(5, 0, 9);
    x.image();
    Edges.serve(x, 20);
    due("spread", x.spread(), 20);
    due("undo", x.undo(), 3);
    due("meals", x.now(9), 3);
    due("the latest", x.book(0), 9);
    due("week", x.now(8), 14);
    due("day", x.day(0), 14);
    due("spread", x.spread(), 9);
    due("no fourth", x.book(3), Edges.BEYOND);
  }

  static void promise41AFullBookComesBackBehindAnother() {
    PeaSpoons x = new PeaSpoons();
    x.taste(Edges.LICKED, 0, 1);
    x.meals(34);
    Edges.serve(x, 8);
    x.image();
    Edges.serve(x, 3);
    x.meals(40);
    due("undo", x.undo(), 35);
    due("the latest", x.book(0), 8);
    due("the earliest", x.book(34), 0);
    due("week", x.now(8), 8);
    due("short", x.now(10), 1);
    due("one meal goes on", x.change(0, 0, Edges.LICKED), Edges.HIDDEN);
    x.meals(1);
    due("it is the second now", x.book(1), 8);
  }

  static void promise41ThePlanGoesOnByTheMealKept() {
    PeaSpoons x = new PeaSpoons();
    x.taste(Edges.LICKED, 0, 1);
    x.taste(Edges.LICKED, 1, 1);
    x.taste(Edges.LICKED, 2, 1);
    x.meals(1);
    x.image();
    x.meals(1);
    x.drop();
    x.undo();
    x.meals(1);
    due("taste 1 was served", x.foodOf(1, 2), 1);
    due("taste 0 once", x.foodOf(0, 2), 1);
    x.meals(1);
    due("taste 2 is there again", x.foodOf(2, 2), 1);
    due("tried", x.count(2), 3);
  }

  static void promise41SpotsComeBackWithTheirTastes() {
    PeaSpoons x = new PeaSpoons();
    x.taste(Edges.PAID, 0, 1);
    x.taste(Edges.GROWN, 1, 1);
    x.hold(3, 1);
    x.hold(9, 0);
    x.image();
    x.drop();
    due("nothing", x.as(3, Edges.TASTE), Edges.MISSING);
    x.drop();
    due("none", x.count(5), 0);
    x.undo();
    due("two", x.count(5), 2);
    due("grown", x.as(3, Edges.GROWN), 1);
    due("paid", x.as(9, Edges.PAID), 0);
  }

  static void promise41ASpotTakenAfterTheImageIsFreeAgain() {
    PeaSpoons x = climbing();
    x.image();
    x.taste(Edges.LICKED, 1, 2);
    x.hold(0, 1);
    x.undo();
    due("missing", x.as(0, Edges.TASTE), Edges.MISSING);
    due("no such taste", x.hold(0, 1), Edges.BEYOND);
    due("a new taste 1", x.taste(Edges.PRESSED, 2, 3), 1);
    due("that no spot holds", x.count(5), 0);
  }

  static void promise41AnImageOfWhatUndoBroughtIsThat() {
    PeaSpoons x = climbing();
    x.image();
    x.meals(4);
    x.undo();
    x.image();
    x.meals(2);
    due("undo", x.undo(), 0);
    due("like", x.foodOf(3, 0), 20);
  }

  // ---- ahead, and what it leaves

  static void promise19AsManySpoonsAsTheMealsBehindIt() {
    PeaSpoons x = Edges.rich();
    int spoons = x.ahead(23, 0);
    int liked = x.ahead(23, 1);
    int weight = x.ahead(23, 2);
    int hunger = x.ahead(23, 3);
    int like = x.ahead(23, 4 + 6);
    lookAhead(x);
    due("spoons", x.meals(23), spoons);
    due("liked", x.liked(), liked);
    due("weight", x.now(4), weight);
    due("hunger", x.now(3), hunger);
    due("like", x.foodOf(6, 0), like);
  }

  static void promise19BehindAFaultOfATextAllIsAsItWas() {
    PeaSpoons x = climbing();
    due("a fault at 40", Edges.tell(x, "taste 1;food 3 like 99;bent 9;pudding 3;x"), -1 - 40);
    due("like behind 0", x.ahead(0, 4 + 3), 20);
    due("like behind 5", x.ahead(5, 4 + 3), 50);
    due("when", x.when(3), 5);
    due("times", x.times(0), 5);
    due("no pudding", x.paid(1), Edges.NONE);
    due("spoons", x.ahead(2, 0), 2);
  }

  static void promise19WithAPlanThatWasChangedAhead() {
    PeaSpoons x = climbing();
    due("for another kind", x.kindFor(0, 1), Edges.TASTE);
    due("for another food", x.foodFor(0, 1), 0);
    x.taste(Edges.LICKED, 3, 1);
    x.putFor(1, 3);
    x.order(3);
    x.times(1);
    due("kind", x.tasteOf(0, 0), Edges.TASTE);
    due("kind of the other", x.tasteOf(1, 0), Edges.LICKED);
    due("6 and 3 by turns", x.ahead(4, 4 + 3), 38);
  }

  static void promise20LineMoves() {
    PeaSpoons x = climbing();
    due("50", x.when(3), 5);
    x.child(3, 51);
    due("51", x.when(3), 6);
    x.child(3, 99);
    due("20 and 14 times 6 is 104, held at 99", x.when(3), 14);
    x.child(3, 20);
    due("liked now", x.when(3), 0);
    due("all at 20 are liked", x.next(), Edges.NONE);
    x.child(3, 21);
    due("none at 20 is liked, the first is next", x.next(), 0);
    x.food(3, 0, 21);
    due("a set", x.liked(), 8);
    due("one", x.count(1), 1);
  }

  /** A like of 0 that is found is held there, one that isn't is 1. */
  static void promise21ByTheDrawsOfZWhichStays() {
    PeaSpoons x = hiding(Edges.seedWithRest(0));
    x.food(0, 0, 0);
    x.child(3, 1);
    int z = x.count(4);
    int meals = 1;
    for (int at = Edges.nextZ(z); Edges.rest(at) == 0 && meals < 90; at = Edges.nextZ(at)) {
      meals++;
    }
    due("found once at least", meals > 1 ? 1 : 0, 1);
    due("till it isn't found", x.times(0), meals);
    due("z stays", x.count(4), z);
    x.taste(Edges.GROWN, 0, 1);
    x.hold(5, 1);
    due("the other doesn't count", x.times(0), meals);
    due("when both are served", x.when(0), 2);
    due("the spot stays", x.as(5, Edges.GROWN), 1);
    x.seed(Edges.seedWithRest(9));
    due("not found at once", x.times(0), 1);
    x.food(0, 0, 1);
    due("liked now", x.times(0), 0);
  }

  static void promise28EachByZAsTheOneAheadLeftIt() {
    PeaSpoons x = hiding(1);
    x.food(0, 0, 49);
    int z = 1;
    int often = 0;
    for (int i = 0; i < 20; i++) {
      z = Edges.nextZ(z);
      often += Edges.rest(z) == 0 ? 0 : 1;
    }
    due("as often as it isn't found", x.chance(0, 20, 1), often);
    due("z", x.count(4), z);
    z = Edges.nextZ(z);
    due("the next meal draws behind them", x.meals(1), Edges.rest(z) == 0 ? 0 : 7);
    due("like is moved once", x.foodOf(0, 0), Edges.rest(z) == 0 ? 39 : 50);
  }

  static void promise28ARefusedOneLeavesZ() {
    PeaSpoons x = hiding(9);
    due("food", x.chance(10, 1, 1), Edges.BEYOND);
    due("n", x.chance(0, 21, 1), Edges.BEYOND);
    due("t", x.chance(0, 1, 71), Edges.BEYOND);
    due("z", x.count(4), 9);
    due("findings", x.status(0), 3);
  }

  static void promise39ByTheLikesThatWereLoaded() {
    PeaSpoons x = climbing();
    x.sheet(0, 8, 4);
    x.write(0, 3, 99);
    x.sheet(1, 32, 2);
    x.write(1, 0, 1);
    x.write(1, 1, 1);
    due("10 * 20 * 60 and 10 * 26 * 69 by 10000", x.judge(1), 0);
    due("four likes", x.load(0), 4);
    due("10 * 99 * 60 by 10000 is 5", x.judge(1), 1);
    x.write(1, 0, 5);
    due("10 * 99 * 57 by 10000 is 5", x.judge(1), 2);
    x.write(1, 1, 5);
    due("both", x.judge(1), 0);
    due("as the meals", x.meals(2), 10);
  }

  static void promise39ANumberCutToItsBitsIsNeverEatenBelow0() {
    PeaSpoons x = hiding(1);
    x.sheet(0, 8, 1);
    x.write(0, 0, 256 + 7);
    due("7 of 8 bits", x.judge(0), 0);
    x.sheet(0, 16, 1);
    x.write(0, 0, 256 + 7);
    due("263 of 16 bits", x.judge(0), 1);
    due("no like of 263", x.load(0), 0);
  }

  // ---- the plan and the meals

  static void promise09ANewTasteIsServedByTheNewRest() {
    PeaSpoons x = new PeaSpoons();
    x.meals(4);
    due("nothing was served", x.count(2), 0);
    due("a book of nothing", x.now(9), 4);
    for (int food = 0; food < 3; food++) {
      x.taste(Edges.LICKED, food, 1);
    }
    x.meals(1);
    due("meal 4 of three serves 1", x.foodOf(1, 2), 1);
    x.taste(Edges.LICKED, 3, 1);
    x.meals(1);
    due("meal 5 of four serves 1", x.foodOf(1, 2), 2);
    x.drop();
    x.drop();
    x.meals(1);
    due("meal 6 of two serves 0", x.foodOf(0, 2), 1);
    due("three in all", x.count(2), 3);
  }

  static void promise13ADroppedPlanServesNothingAndTheBookStays() {
    PeaSpoons x = Edges.served(6, 4);
    x.drop();
    due("a meal of nothing", x.meals(1), 0);
    due("the book", x.book(2), 6);
    due("week", x.now(8), 10);
    due("nothing ahead", x.ahead(9, 0), 0);
    due("no order", x.order(2), Edges.NONE);
    due("no taste", x.times(0), Edges.BEYOND);
  }

  static void promise11AKindThatIsChangedIsTheOneServed() {
    PeaSpoons x = climbing();
    x.pudding(7);
    due("it was a taste", x.change(0, 0, Edges.PAID), Edges.TASTE);
    due("min of 10 and 1 and 2 and 3", x.tasteOf(0, 3), 6);
    due("6 less 8 and 2", x.tasteOf(0, 4), 0);
    due("so are the meals", x.meals(1), 6);
    due("pudding", x.foodOf(7, 0), 25);
    due("like", x.foodOf(3, 0), 20);
    due("by 5 each", x.paid(3), 15);
    x.change(0, 0, Edges.PRESSED);
    due("none is paid", x.paid(3), 0);
    x.change(0, 1, 7);
    due("its own food", x.ahead(2, 4 + 7), 21);
  }

  static void promise05WithoutPuddingAPaidOneMovesItsFoodAlone() {
    PeaSpoons x = climbing();
    x.change(0, 0, Edges.PAID);
    x.pudding(0);
    x.pudding(-1);
    x.meals(3);
    for (int food = 0; food < 10; food++) {
      due("like", x.foodOf(food, 0), 20);
    }
    due("paid", x.paid(0), Edges.NONE);
  }

  static void promise06FriendIsAskedWhenItIsServed() {
    PeaSpoons x = new PeaSpoons();
    x.food(2, 0, 50);
    x.child(1, 80);
    x.taste(Edges.COPIED, 2, 8);
    due("8 * 50 * 100 by 10000", x.tasteOf(0, 3), 4);
    x.friend(4);
    due("half of that more", x.tasteOf(0, 3), 6);
    due("3 more", x.tasteOf(0, 4), 9);
    Edges.tell(x, "friend 1 3");
    due("not of the friend now", x.tasteOf(0, 3), 4);
    due("moves", x.ahead(1, 4 + 2), 56);
    x.friend(1023);
    due("spoons", x.meals(1), 6);
    due("like", x.foodOf(2, 0), 59);
  }

  // ---- spots

  static void promise12ASpotHoldsTheNumberAlsoWhenTheLastIsDroppedThen() {
    PeaSpoons x = new PeaSpoons();
    x.taste(Edges.PAID, 0, 1);
    x.taste(Edges.LICKED, 1, 2);
    x.hold(0, 0);
    x.hold(1, 1);
    due("swap", x.swap(1, 0), 1);
    due("0 is licked", x.as(0, Edges.LICKED), 0);
    due("1 is paid", x.as(1, Edges.PRESSED), 1);
    due("0 is not pressed", x.as(0, Edges.PRESSED), Edges.KIND);
    due("one is left", x.drop(), 1);
    due("no 1", x.as(1, Edges.TASTE), Edges.MISSING);
    due("0 stays", x.as(0, Edges.TASTE), 0);
    due("food", x.tasteOf(0, 1), 1);
    due("put", x.tasteOf(0, 2), 2);
  }

  static void promise12AnOrderAheadLeavesSpotsAndPlaces() {
    PeaSpoons x = new PeaSpoons();
    x.taste(Edges.LICKED, 0, 1);
    x.taste(Edges.TASTE, 1, 1);
    x.food(1, 0, 44);
    x.hold(4, 1);
    due("the second first", x.order(1), 1);
    due("places", x.tasteOf(1, 0), Edges.TASTE);
    due("spot", x.as(4, Edges.TASTE), 1);
    due("not licked", x.as(4, Edges.LICKED), Edges.KIND);
    x.swap(0, 1);
    x.meals(1);
    due("food 1 is liked", x.liked(), 2);
    due("none is better", x.order(1), Edges.NONE);
  }

  static void promise13ANewLastTasteIsInNoSpot() {
    PeaSpoons x = new PeaSpoons();
    for (int i = 0; i < 10; i++) {
      x.taste(Edges.GROWN, i, 1);
      x.hold(i, i);
    }
    due("drop", x.drop(), 9);
    due("held", x.count(5), 9);
    due("its spot", x.as(9, Edges.TASTE), Edges.MISSING);
    due("another", Edges.tell(x, "copied 3"), 1);
    due("its spot still", x.as(9, Edges.TASTE), Edges.MISSING);
    due("hold", x.hold(9, 9), 1);
    due("copied", x.as(9, Edges.COPIED), 9);
    due("the others", x.as(8, Edges.COPIED), 8);
  }

  static void promise34AsTheKindIsNow() {
    PeaSpoons x = climbing();
    x.hold(0, 0);
    due("a taste isn't pressed", x.as(0, Edges.PRESSED), Edges.KIND);
    x.change(0, 0, Edges.PAID);
    due("a paid one is", x.as(0, Edges.PRESSED), 0);
    x.change(0, 0, Edges.GROWN);
    due("a grown one isn't", x.as(0, Edges.PRESSED), Edges.KIND);
    due("but copied", x.as(0, Edges.COPIED), 0);
    due("kinds refused", x.status(2), 2);
    x.kindFor(0, 20);
    due("still", x.as(0, Edges.GROWN), 0);
  }

  // ---- texts

  static void promise32ATextLeavesMealsZSpotsSheetsAndTheImage() {
    PeaSpoons x = watched();
    x.wipe();
    x.hold(7, 1);
    int z = x.count(4);
    due("told", Edges.tell(x, "food 7 like 9;friend 3;line 40"), 3);
    due("meal", x.now(0), 9);
    due("meals of the book", x.now(9), 9);
    due("z", x.count(4), z);
    due("tried", x.count(2), 9);
    due("spot", x.as(7, Edges.LICKED), 1);
    due("sheet", x.judge(3), 3);
    due("the image", x.undo(), 3);
  }

  static void promise32AnItemIsSoForThoseBehindIt() {
    PeaSpoons x = new PeaSpoons();
    due("the latest of a food", Edges.tell(x, "food 2 like 5;food 2 bitter 6;food 2 like 7"), 3);
    due("like", x.foodOf(2, 0), 7);
    due("bitter", x.foodOf(2, 1), 6);
    due("tastes in their order", Edges.tell(x, "paid 1;licked 2 put 3"), 2);
    due("the first", x.tasteOf(0, 0), Edges.PAID);
    due("the second", x.tasteOf(1, 0), Edges.LICKED);
    due("behind them", Edges.tell(x, "grown 3"), 1);
    due("the third", x.tasteOf(2, 0), Edges.GROWN);
  }

  static void promise32TheEleventhIsToldByThePlanAsItIs() {
    PeaSpoons x = new PeaSpoons();
    for (int i = 0; i < 9; i++) {
      x.taste(Edges.TASTE, i, 1);
    }
    due("its own word", Edges.tell(x, "taste 0;taste 1"), -1 - 8);
    due("not even the tenth", x.count(0), 9);
    due("the tenth", Edges.tell(x, "taste 0"), 1);
    due("the eleventh", Edges.tell(x, " taste 0"), -1 - 1);
    due("full", x.taste(0, 0, 1), Edges.FULL);
    x.drop();
    due("the tenth again", Edges.tell(x, "hidden 0"), 1);
    due("faults are no findings", x.status(-1), 1);
  }

  // ---- sheets

  static void promise38OfNumbersThatWereCopied() {
    PeaSpoons x = new PeaSpoons();
    x.sheet(0, 8, 12);
    for (int i = 0; i < 12; i++) {
      x.write(0, i, 88 + i);
    }
    due("overlapping", x.copy(0, 0, 0, 1, 11), 11);
    due("ten of twelve", x.load(0), 10);
    due("like 0", x.foodOf(0, 0), 88);
    due("like 1", x.foodOf(1, 0), 88);
    due("like 9", x.foodOf(9, 0), 96);
    x.write(0, 4, 100);
    x.food(4, 0, 1);
    due("to the first that isn't one", x.load(0), 4);
    due("like 4 stays", x.foodOf(4, 0), 1);
    x.write(0, 0, 255);
    due("-1 of 8 bits", x.load(0), 0);
  }

  static void promise35ANewSheetOfTheSamePlaceIsAll0() {
    PeaSpoons x = new PeaSpoons();
    x.sheet(2, 8, 3);
    x.write(2, 2, 9);
    x.sheet(2, 0, 3);
    due("missing", x.judge(2), Edges.MISSING);
    due("again", x.sheet(2, 8, 3), 3);
    due("three meals of 0", x.judge(2), 0);
    due("three likes", x.load(2), 3);
    due("of 0", x.foodOf(2, 0), 0);
  }

  // ---- status

  static void promise44OneFindingEachCall() {
    PeaSpoons x = new PeaSpoons();
    due("two reasons, the first is told", x.copy(0, -1, 9, 0, 0), Edges.BEYOND);
    due("missing comes ahead of the last beyond", x.copy(0, -1, 1, 0, 0), Edges.MISSING);
    due("no size, no bits", x.sheet(0, 7, -1), Edges.BEYOND);
    due("a taste of a full plan that is beyond", x.taste(7, 0, 1), Edges.BEYOND);
    due("no pudding, too many", x.paid(176), Edges.BEYOND);
    due("all", x.status(-1), 5);
    due("beyond", x.status(0), 4);
    due("missing", x.status(5), 1);
    due("another one", x.status(7), Edges.BEYOND);
    due("counted then", x.status(0), 5);
    due("asked again", x.status(-1), 6);
  }

  static void promise44WhatIsAskedAheadCountsOnceThoughManyMealsGoOn() {
    PeaSpoons x = Edges.steady(5);
    due("no order of one", x.order(70), Edges.NONE);
    due("never liked", x.when(0), Edges.NONE);
    due("nor by itself", x.times(0), Edges.NONE);
    due("5 spoons each are 175 a week", x.worry(), Edges.NONE);
    due("none", x.status(3), 4);
    due("all", x.status(-1), 4);
    x.kindFor(0, 175);
    x.putFor(0, 175);
    x.chance(0, 20, 70);
    due("no more", x.status(-1), 4);
  }
}
