/** The bounds that promises 33 to 39 name. */
public final class SheetsEdgeTest {
  public static void main(String[] args) throws Exception {
    Edges.run(SheetsEdgeTest.class);
  }

  private static void due(String what, long got, long want) {
    Edges.due(what, got, want);
  }

  private static void beyond(String what, Edges.Call call) {
    Edges.refused(what, call, Edges.BEYOND);
  }

  /** Sheet 0 of these bits with these numbers. */
  private static PeaSpoons row(int bits, int... numbers) {
    PeaSpoons x = new PeaSpoons();
    due("sheet", x.sheet(0, bits, numbers.length), numbers.length);
    write(x, 0, numbers);
    return x;
  }

  private static void write(PeaSpoons x, int s, int... numbers) {
    for (int i = 0; i < numbers.length; i++) {
      due("write", x.write(s, i, numbers[i]), 1);
    }
  }

  private static String of(PeaSpoons x, int s) {
    return Edges.sheetOf(x, s);
  }

  // ---- 33. hold

  static void promise33SpotsAre0To9() {
    PeaSpoons x = new PeaSpoons();
    x.taste(Edges.TASTE, 0, 1);
    due("spot 0", x.hold(0, 0), 1);
    due("spot 9", x.hold(9, 0), 1);
    due("spots in use", x.count(5), 2);
    beyond("-1", y -> y.hold(-1, 0));
    beyond("10", y -> y.hold(10, 0));
    beyond("-1, nothing", y -> y.hold(-1, -1));
    beyond("10, nothing", y -> y.hold(10, -1));
    beyond("the least int", y -> y.hold(Edges.LEAST, 0));
    beyond("the greatest int", y -> y.hold(Edges.MOST, 0));
  }

  static void promise33TastesOfThePlanOrNothing() {
    PeaSpoons x = Edges.full();
    due("taste 0", x.hold(3, 0), 1);
    due("is", x.as(3, 0), 0);
    due("taste 9 of ten", x.hold(3, 9), 1);
    due("is", x.as(3, 0), 9);
    due("nothing", x.hold(3, -1), 1);
    due("is", x.as(3, 0), Edges.MISSING);
    due("nothing again", x.hold(3, -1), 1);
    due("spots in use", x.count(5), 9);
    beyond("-2", y -> y.hold(0, -2));
    beyond("7 of 7", y -> y.hold(0, 7));
    beyond("the least int", y -> y.hold(0, Edges.LEAST));
    beyond("the greatest int", y -> y.hold(0, Edges.MOST));
    Edges.refused("10 of 10", Edges::full, y -> y.hold(0, 10), Edges.BEYOND);
    Edges.refused("0 of none", PeaSpoons::new, y -> y.hold(0, 0), Edges.BEYOND);
    Edges.asked("nothing, without any", PeaSpoons::new, y -> y.hold(0, -1), 1);
  }

  static void promise33OneTasteInAllSpots() {
    PeaSpoons x = new PeaSpoons();
    x.taste(Edges.PAID, 0, 1);
    for (int spot = 0; spot < 10; spot++) {
      due("spots in use", x.count(5), spot);
      due("hold", x.hold(spot, 0), 1);
    }
    due("spots in use", x.count(5), 10);
  }

  // ---- 34. as

  static void promise34SpotsAre0To9AndKinds0To6() {
    int[][] bad = {{-1, 0}, {10, 0}, {0, -1}, {0, 7}, {Edges.LEAST, 0}, {Edges.MOST, 0}, {0, Edges.LEAST},
        {0, Edges.MOST}};
    for (int[] b : bad) {
      beyond("as(" + b[0] + ", " + b[1] + ")", y -> y.as(b[0], b[1]));
    }
    Edges.asked("spot 0", y -> y.as(0, 0), 0);
    Edges.asked("spot 9", y -> y.as(9, 6), 6);
  }

  static void promise34EachKindAndThoseUnderIt() {
    // 3 under 2; 5 under 4; all but it under 0
    int[][] above = {{0}, {0, 1}, {0, 2}, {0, 2, 3}, {0, 4}, {0, 4, 5}, {0, 6}};
    for (int kind = 0; kind < 7; kind++) {
      PeaSpoons x = new PeaSpoons();
      x.taste(Edges.TASTE, 0, 1);
      x.taste(kind, 0, 1);
      x.hold(5, 1);
      for (int asked = 0; asked < 7; asked++) {
        int want = Edges.KIND;
        for (int a : above[kind]) {
          want = a == asked ? 1 : want;
        }
        due("kind " + kind + " as " + asked, x.as(5, asked), want);
      }
    }
  }

  static void promise34FindingsInTheirOrder() {
    Edges.refused("nothing there", y -> y.as(1, 0), Edges.MISSING);
    Edges.refused("nothing there, any kind", y -> y.as(1, 6), Edges.MISSING);
    Edges.refused("nothing there, no kind", y -> y.as(1, 7), Edges.BEYOND);
    Edges.refused("nothing there, no kind", y -> y.as(1, -1), Edges.BEYOND);
    Edges.refused("a taste as a hidden one", y -> y.as(0, 6), Edges.KIND);
    Edges.refused("a hidden one as a grown one", y -> y.as(9, 5), Edges.KIND);
    Edges.refused("a taste as no kind", y -> y.as(0, 7), Edges.BEYOND);
    Edges.refused("a new object", PeaSpoons::new, y -> y.as(0, 0), Edges.MISSING);
  }

  // ---- 35. sheet

  static void promise35SheetsAre0To3() {
    PeaSpoons x = new PeaSpoons();
    due("sheet 0", x.sheet(0, 8, 1), 1);
    due("sheet 3", x.sheet(3, 8, 2), 2);
    Edges.due("0", of(x, 0), "1: 0 of 8 bits");
    Edges.due("1", of(x, 1), "missing");
    Edges.due("2", of(x, 2), "missing");
    Edges.due("3", of(x, 3), "2: 0 0 of 8 bits");
    beyond("-1", y -> y.sheet(-1, 8, 1));
    beyond("4", y -> y.sheet(4, 8, 1));
    beyond("-1 missing", y -> y.sheet(-1, 0, 1));
    beyond("4 missing", y -> y.sheet(4, 0, 1));
    beyond("the least int", y -> y.sheet(Edges.LEAST, 8, 1));
    beyond("the greatest int", y -> y.sheet(Edges.MOST, 8, 1));
  }

  static void promise35BitsAre8Or16Or32OrNone() {
    int[] bits = {8, 16, 32};
    for (int b : bits) {
      PeaSpoons x = new PeaSpoons();
      due("sheet", x.sheet(1, b, 3), 3);
      Edges.due("is", of(x, 1), "3: 0 0 0 of " + b + " bits");
    }
    int[] bad = {-1, 1, 4, 7, 9, 15, 17, 24, 31, 33, 64, -8, Edges.LEAST, Edges.MOST};
    for (int b : bad) {
      beyond("bits " + b, y -> y.sheet(0, b, 1));
    }
  }

  static void promise35NIs0To40() {
    int[] bits = {8, 16, 32};
    for (int b : bits) {
      PeaSpoons x = new PeaSpoons();
      due("0", x.sheet(0, b, 0), 0);
      Edges.due("is", of(x, 0), "0:");
      due("40", x.sheet(0, b, 40), 40);
      Edges.due("is", of(x, 0), "40:" + " 0".repeat(40) + " of " + b + " bits");
      Edges.refused("-1 of " + b, y -> y.sheet(0, b, -1), Edges.SIZE);
      Edges.refused("41 of " + b, y -> y.sheet(0, b, 41), Edges.BEYOND);
      Edges.refused("the least int of " + b, y -> y.sheet(0, b, Edges.LEAST), Edges.SIZE);
      Edges.refused("the greatest int of " + b, y -> y.sheet(0, b, Edges.MOST), Edges.BEYOND);
    }
  }

  static void promise35MissingWithBits0() {
    int[] all = {0, 1, 40};
    for (int n : all) {
      PeaSpoons x = Edges.rich();
      due("sheet(0, 0, " + n + ")", x.sheet(0, 0, n), 0);
      Edges.due("is", of(x, 0), "missing");
      due("a missing one again", x.sheet(0, 0, n), 0);
    }
    Edges.refused("-1", y -> y.sheet(0, 0, -1), Edges.SIZE);
    Edges.refused("41", y -> y.sheet(0, 0, 41), Edges.BEYOND);
    Edges.refused("-1 of a missing one", y -> y.sheet(3, 0, -1), Edges.SIZE);
    Edges.refused("41 of a missing one", y -> y.sheet(3, 0, 41), Edges.BEYOND);
  }

  static void promise35BeyondIsToldAheadOfSize() {
    beyond("no sheet, -1", y -> y.sheet(4, 8, -1));
    beyond("no sheet, -1", y -> y.sheet(-1, 0, -1));
    beyond("no bits, -1", y -> y.sheet(0, 7, -1));
    beyond("no sheet, no bits, -1", y -> y.sheet(4, 7, -1));
  }

  static void promise35AllNumbersAre0Again() {
    PeaSpoons x = row(8, 1, 2, 3, 4);
    x.sheet(0, 8, 2);
    Edges.due("less of them", of(x, 0), "2: 0 0 of 8 bits");
    x = row(8, 1, 2, 3, 4);
    x.sheet(0, 8, 2);
    x.sheet(0, 8, 4);
    Edges.due("as many of them", of(x, 0), "4: 0 0 0 0 of 8 bits");
    x = row(8, 1, 2, 3, 4);
    x.sheet(0, 0, 0);
    x.sheet(0, 32, 4);
    Edges.due("behind a missing one", of(x, 0), "4: 0 0 0 0 of 32 bits");
  }

  // ---- 36. write

  static void promise36NumbersOfTheSheet() {
    PeaSpoons x = new PeaSpoons();
    x.sheet(0, 8, 40);
    due("number 0", x.write(0, 0, 5), 1);
    due("number 39", x.write(0, 39, 6), 1);
    due("number 40", x.write(0, 40, 7), Edges.BEYOND);
    Edges.due("is", of(x, 0), "40: 5" + " 0".repeat(38) + " 6 of 8 bits");
    beyond("-1", y -> y.write(0, -1, 1));
    beyond("4 of 4", y -> y.write(0, 4, 1));
    beyond("the least int", y -> y.write(0, Edges.LEAST, 1));
    beyond("the greatest int", y -> y.write(0, Edges.MOST, 1));
    beyond("0 of none", y -> y.write(2, 0, 1));
  }

  static void promise36FindingsInTheirOrder() {
    beyond("sheet -1", y -> y.write(-1, 0, 1));
    beyond("sheet 4", y -> y.write(4, 0, 1));
    beyond("the greatest int", y -> y.write(Edges.MOST, 0, 1));
    Edges.refused("missing", y -> y.write(3, 0, 1), Edges.MISSING);
    Edges.refused("missing, no such number", y -> y.write(3, -1, 1), Edges.MISSING);
    Edges.refused("missing, no such number", y -> y.write(3, 40, 1), Edges.MISSING);
    beyond("no sheet, no such number", y -> y.write(4, -1, 1));
  }

  static void promise36TheLowestBits() {
    // what is no like is told as a sign: 255 of 8 bits is -1
    int[] all = {99, 127, 128, 255, 256, 256 + 99, -256, -1, 65535, 65536, 65536 + 99, 32768, Edges.LEAST,
        Edges.MOST};
    String[] of8 = {"99", "?", "?", "?", "0", "99", "0", "?", "?", "0", "99", "0", "0", "?"};
    String[] of16 = {"99", "?", "?", "?", "?", "?", "?", "?", "?", "0", "99", "?", "0", "?"};
    String[] of32 = {"99", "?", "?", "?", "?", "?", "?", "?", "?", "?", "?", "?", "?", "?"};
    Edges.due("8", of(row(8, all), 0), "14: " + String.join(" ", of8) + " of 8 bits");
    Edges.due("16", of(row(16, all), 0), "14: " + String.join(" ", of16) + " of 16 bits");
    Edges.due("32", of(row(32, all), 0), "14: " + String.join(" ", of32) + " of 32 bits");
  }

  // ---- 37. copy

  static void promise37FindingsInTheirOrder() {
    int[][] none = {{-1, 0}, {4, 0}, {0, -1}, {0, 4}, {-1, 3}, {3, 4}, {Edges.LEAST, 0}, {0, Edges.MOST}};
    for (int[] b : none) {
      beyond("copy from " + b[0] + " to " + b[1], y -> y.copy(b[0], 0, b[1], 0, 1));
    }
    Edges.refused("from a missing one", y -> y.copy(3, 0, 0, 0, 1), Edges.MISSING);
    Edges.refused("to a missing one", y -> y.copy(0, 0, 3, 0, 1), Edges.MISSING);
    Edges.refused("both", y -> y.copy(3, 0, 3, 0, 0), Edges.MISSING);
    Edges.refused("a missing one, and -1", y -> y.copy(3, -1, 0, -1, -1), Edges.MISSING);
    Edges.refused("8 and 16 bits", y -> y.copy(0, 0, 1, 0, 1), Edges.KIND);
    Edges.refused("16 and 32 bits", y -> y.copy(1, 0, 2, 0, 0), Edges.KIND);
    Edges.refused("32 and 8 bits, and -1", y -> y.copy(2, -1, 0, -1, -1), Edges.KIND);
  }

  static void promise37FromToAndNAtTheirBounds() {
    // sheet 0 has 4 numbers, and so has 3
    Edges.Scene two = () -> {
      PeaSpoons x = Edges.rich();
      x.sheet(3, 8, 4);
      return x;
    };
    int[][] bad = {{-1, 0, 1}, {0, -1, 1}, {0, 0, -1}, {4, 0, 1}, {0, 4, 1}, {1, 0, 4}, {0, 1, 4}, {0, 0, 5},
        {5, 0, 0}, {0, 5, 0}, {-1, 0, 0}, {0, -1, 0}, {Edges.MOST, 0, 1}, {0, Edges.MOST, 1},
        {Edges.MOST, Edges.MOST, Edges.MOST}, {0, 0, Edges.MOST}, {1, 1, Edges.MOST}, {0, 0, Edges.LEAST},
        {Edges.LEAST, 0, 1}, {0, Edges.LEAST, 1}, {Edges.LEAST, Edges.LEAST, Edges.LEAST}};
    for (int[] b : bad) {
      Edges.refused("copy(0, " + b[0] + ", 3, " + b[1] + ", " + b[2] + ")", two,
          y -> y.copy(0, b[0], 3, b[1], b[2]), Edges.BEYOND);
    }
    Edges.asked("none from the begin", two, y -> y.copy(0, 0, 3, 0, 0), 0);
    Edges.asked("none at the end", two, y -> y.copy(0, 4, 3, 4, 0), 0);
    Edges.asked("none of none", two, y -> y.copy(2, 0, 2, 0, 0), 0);
    Edges.refused("one of none", two, y -> y.copy(2, 0, 2, 0, 1), Edges.BEYOND);
    PeaSpoons x = two.made();
    due("all", x.copy(0, 0, 3, 0, 4), 4);
    Edges.due("is", of(x, 3), "4: 12 0 0 98 of 8 bits");
    x = two.made();
    due("the last to the first", x.copy(0, 3, 3, 0, 1), 1);
    Edges.due("is", of(x, 3), "4: 98 0 0 0 of 8 bits");
    x = two.made();
    due("the first to the last", x.copy(0, 0, 3, 3, 1), 1);
    Edges.due("is", of(x, 3), "4: 0 0 0 12 of 8 bits");
    Edges.due("the other stays", of(x, 0), "4: 12 0 0 98 of 8 bits");
  }

  static void promise37OneIsShorterThanTheOther() {
    PeaSpoons x = row(16, 1, 2, 3, 4, 5);
    x.sheet(1, 16, 2);
    due("3 into 2", x.copy(0, 0, 1, 0, 3), Edges.BEYOND);
    due("3 out of 2", x.copy(1, 0, 0, 0, 3), Edges.BEYOND);
    due("2 into 2", x.copy(0, 3, 1, 0, 2), 2);
    due("2 out of 2", x.copy(1, 0, 0, 0, 2), 2);
    Edges.due("is", of(x, 0), "5: 4 5 3 4 5 of 16 bits");
    Edges.due("is", of(x, 1), "2: 4 5 of 16 bits");
  }

  static void promise37AsTheyAllWere() {
    PeaSpoons x = row(8, 1, 2, 3, 4, 5);
    due("upwards in itself", x.copy(0, 0, 0, 1, 4), 4);
    Edges.due("is", of(x, 0), "5: 1 1 2 3 4 of 8 bits");
    x = row(32, 1, 2, 3, 4, 5);
    due("downwards in itself", x.copy(0, 1, 0, 0, 4), 4);
    Edges.due("is", of(x, 0), "5: 2 3 4 5 5 of 32 bits");
    x = row(16, 1, 2, 3, 4, 5);
    due("onto itself", x.copy(0, 0, 0, 0, 5), 5);
    Edges.due("is", of(x, 0), "5: 1 2 3 4 5 of 16 bits");
  }

  static void promise37FortyNumbers() {
    PeaSpoons x = new PeaSpoons();
    x.sheet(0, 16, 40);
    x.sheet(3, 16, 40);
    x.write(0, 0, 8);
    x.write(0, 39, 9);
    due("41", x.copy(0, 0, 3, 0, 41), Edges.BEYOND);
    due("40", x.copy(0, 0, 3, 0, 40), 40);
    Edges.due("is", of(x, 3), "40: 8" + " 0".repeat(38) + " 9 of 16 bits");
  }

  // ---- 38. load

  private static void likes(String what, PeaSpoons x, int... wants) {
    for (int food = 0; food < 10; food++) {
      due(what + ", food " + food, x.foodOf(food, 0), food < wants.length ? wants[food] : 20);
    }
  }

  static void promise38ItEndsAtTheFirstThatIsNoLike() {
    PeaSpoons x = row(8, 0, 99, 1);
    due("all of three", x.load(0), 3);
    likes("all of three", x, 0, 99, 1);
    x = row(8, 98, 100, 1);
    due("100", x.load(0), 1);
    likes("100", x, 98);
    x = row(8, 98, -1, 1);
    due("-1", x.load(0), 1);
    likes("-1", x, 98);
    x = row(8, 255, 1);
    due("255, which is -1", x.load(0), 0);
    likes("255", x);
    x = row(16, 65535, 1);
    due("65535, which is -1", x.load(0), 0);
    x = row(32, 5, Edges.LEAST, 1);
    due("the least int", x.load(0), 1);
    likes("the least int", x, 5);
  }

  static void promise38ItEndsWhereThereIsNoFood() {
    PeaSpoons x = row(16, 1, 2, 3, 4, 5, 6, 7, 8, 9);
    due("nine", x.load(0), 9);
    likes("nine", x, 1, 2, 3, 4, 5, 6, 7, 8, 9);
    x = row(16, 1, 2, 3, 4, 5, 6, 7, 8, 9, 10);
    due("ten", x.load(0), 10);
    likes("ten", x, 1, 2, 3, 4, 5, 6, 7, 8, 9, 10);
    x = row(16, 1, 2, 3, 4, 5, 6, 7, 8, 9, 10, 11);
    due("eleven", x.load(0), 10);
    likes("eleven", x, 1, 2, 3, 4, 5, 6, 7, 8, 9, 10);
    x = row(16, 1, 2, 3, 4, 5, 6, 7, 8, 9, 100);
    due("the tenth is none", x.load(0), 9);
    likes("the tenth is none", x, 1, 2, 3, 4, 5, 6, 7, 8, 9);
    x = new PeaSpoons();
    x.sheet(2, 32, 40);
    due("forty", x.load(2), 10);
    likes("forty", x, 0, 0, 0, 0, 0, 0, 0, 0, 0, 0);
  }

  static void promise38ASheetOfNone() {
    Edges.asked("none", y -> y.load(2), 0);
  }

  static void promise38FindingsInTheirOrder() {
    beyond("-1", y -> y.load(-1));
    beyond("4", y -> y.load(4));
    beyond("the least int", y -> y.load(Edges.LEAST));
    beyond("the greatest int", y -> y.load(Edges.MOST));
    Edges.refused("missing", y -> y.load(3), Edges.MISSING);
  }

  // ---- 39. judge

  /** Three spoons, then seven, and so on: a paid one of a food that nothing moves, and a hidden one. */
  private static PeaSpoons reader(int bits, int... numbers) {
    PeaSpoons x = row(bits, numbers);
    x.food(0, 0, 0);
    x.taste(Edges.PAID, 0, 3);
    x.taste(Edges.HIDDEN, 1, 7);
    return x;
  }

  static void promise39ThePlaceOfTheFirstThatIsNot() {
    // the rests of the draws of z 1 are 4 and more than 0: not found
    due("none", reader(8).judge(0), 0);
    due("one", reader(8, 3).judge(0), 0);
    due("not the first", reader(8, 4).judge(0), 1);
    due("not the first, of two", reader(8, 4, 6).judge(0), 1);
    due("not the second", reader(8, 3, 6).judge(0), 2);
    due("three", reader(8, 3, 7, 3).judge(0), 0);
    due("not the third", reader(8, 3, 7, 2).judge(0), 3);
    due("below 0", reader(16, 3, -7).judge(0), 2);
    due("8 bits more", reader(16, 3 + 256).judge(0), 1);
    due("of 8 bits", reader(8, 3 + 256).judge(0), 0);
    due("16 bits more", reader(32, 3 + 65536).judge(0), 1);
    due("of 16 bits", reader(16, 3 + 65536).judge(0), 0);
  }

  static void promise39FromNoneTo40Meals() {
    PeaSpoons x = Edges.steady(5);
    x.sheet(0, 8, 40);
    for (int i = 0; i < 40; i++) {
      due("not number " + i, x.judge(0), 1 + i);
      x.write(0, i, 5);
    }
    due("forty", x.judge(0), 0);
    x.write(0, 39, 4);
    due("not the last", x.judge(0), 40);
    x.write(0, 0, 4);
    due("not the first", x.judge(0), 1);
    due("meal", x.now(0), 0);
    x.sheet(0, 8, 0);
    due("none", x.judge(0), 0);
    PeaSpoons y = new PeaSpoons();
    y.sheet(0, 32, 40);
    due("without a plan: nothing is eaten", y.judge(0), 0);
  }

  static void promise39NothingChanges() {
    Edges.asked("three meals", y -> y.judge(1), 1);
    Edges.asked("no meals", y -> y.judge(2), 0);
    Edges.Scene hidden = () -> {
      PeaSpoons x = reader(8, 3, 7, 3);
      x.image();
      return x;
    };
    Edges.asked("a hidden one, which draws", hidden, y -> y.judge(0), 0);
  }

  private static PeaSpoons late(int meal, int numbers) {
    PeaSpoons x = Edges.late(meal);
    x.sheet(0, 8, numbers);
    return x;
  }

  static void promise39FindingsInTheirOrder() {
    beyond("-1", y -> y.judge(-1));
    beyond("4", y -> y.judge(4));
    beyond("the least int", y -> y.judge(Edges.LEAST));
    beyond("the greatest int", y -> y.judge(Edges.MOST));
    Edges.refused("missing", y -> y.judge(3), Edges.MISSING);
    due("40 at 99959", late(99959, 40).judge(0), 0);
    Edges.refused("40 at 99960", () -> late(99960, 40), y -> y.judge(0), Edges.STATE);
    due("1 at 99998", late(99998, 1).judge(0), 0);
    Edges.refused("1 at 99999", () -> late(99999, 1), y -> y.judge(0), Edges.STATE);
    due("0 at 99999", late(99999, 0).judge(0), 0);
    Edges.refused("missing at 99999", () -> late(99999, 40), y -> y.judge(1), Edges.MISSING);
    Edges.refused("no sheet at 99999", () -> late(99999, 40), y -> y.judge(4), Edges.BEYOND);
  }
}
