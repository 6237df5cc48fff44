/** The bounds that promises 40 to 44 name. */
public final class ImagesEdgeTest {
  public static void main(String[] args) throws Exception {
    Edges.run(ImagesEdgeTest.class);
  }

  private static void due(String what, long got, long want) {
    Edges.due(what, got, want);
  }

  private static void beyond(String what, Edges.Call call) {
    Edges.refused(what, call, Edges.BEYOND);
  }

  // ---- 40. image

  private static void upset(PeaSpoons x) {
    Edges.tell(x, "food 1 like 90 bitter 9;food 0 like 91;bent 8;hunger 92;weight 93;line 94;pudding 7;friend 8");
    x.hold(0, -1);
    x.hold(1, 0);
    x.swap(0, 1);
    x.change(0, 2, 19);
    x.drop();
    x.meals(3);
    x.seed(-5);
  }

  static void promise40AllButTheTapeAndSheetsIsKept() {
    PeaSpoons x = Edges.rich();
    due("image", x.image(), 1);
    String before = Edges.present(x);
    x.wipe();
    upset(x);
    Edges.feed(x, "line 3");
    x.sheet(0, 32, 1);
    x.sheet(1, 0, 0);
    due("undo", x.undo(), 9);
    Edges.due("what is kept", Edges.present(x), before);
    due("the tape isn't", x.count(3), 6);
    Edges.due("sheet 0 isn't", Edges.sheetOf(x, 0), "1: 0 of 32 bits");
    Edges.due("sheet 1 isn't", Edges.sheetOf(x, 1), "missing");
  }

  static void promise40ANewObjectAndAFullOne() {
    PeaSpoons x = new PeaSpoons();
    String before = Edges.present(x);
    x.image();
    Edges.tell(x, "taste 0;hidden 1");
    upset(x);
    due("undo", x.undo(), 0);
    Edges.due("new again", Edges.present(x), before);
    PeaSpoons y = Edges.full();
    before = Edges.present(y);
    y.image();
    y.wipe();
    upset(y);
    due("undo", y.undo(), 36);
    Edges.due("full again", Edges.present(y), before);
  }

  static void promise40TheImageIsNotWhatIsChangedThen() {
    PeaSpoons x = Edges.rich();
    x.image();
    String before = Edges.present(x);
    x.food(0, 0, 77);
    x.undo();
    x.food(1, 0, 78);
    x.friend(3);
    x.undo();
    Edges.due("kept", Edges.present(x), before);
    due("image changes nothing else", Edges.rich().image(), 1);
  }

  // ---- 41. undo

  static void promise41NoneIfNothingIsKept() {
    Edges.refused("a new object", PeaSpoons::new, y -> y.undo(), Edges.NONE);
    Edges.refused("a full one", Edges::full, y -> y.undo(), Edges.NONE);
    Edges.refused("torn", () -> {
      PeaSpoons x = Edges.rich();
      x.tear();
      return x;
    }, y -> y.undo(), Edges.NONE);
  }

  static void promise41WhatWasKeptLatestStays() {
    PeaSpoons x = new PeaSpoons();
    x.image();
    x.meals(2);
    x.image();
    x.meals(70);
    due("the latest", x.undo(), 2);
    due("meal", x.now(0), 2);
    x.meals(1);
    due("it stays", x.undo(), 2);
    due("and stays", x.undo(), 2);
    due("book", x.now(9), 2);
  }

  static void promise41MealIsAnswered() {
    PeaSpoons x = new PeaSpoons();
    x.image();
    x.meals(70);
    due("0", x.undo(), 0);
    Edges.goOn(x, 7000);
    x.image();
    x.meals(1);
    due("7000", x.undo(), 7000);
  }

  // ---- 42. tear

  static void promise42OneIfSomethingWasKeptElse0() {
    due("nothing", new PeaSpoons().tear(), 0);
    Edges.asked("nothing", Edges::full, y -> y.tear(), 0);
    PeaSpoons x = Edges.rich();
    String before = Edges.present(x);
    due("something", x.tear(), 1);
    due("nothing then", x.tear(), 0);
    Edges.due("all stays", Edges.present(x), before);
    due("undo", x.undo(), Edges.NONE);
    due("a new image", x.image(), 1);
    due("undo", x.undo(), 9);
    due("kept twice, torn once", x.image() + x.image() + x.tear(), 3);
    due("nothing then", x.tear(), 0);
  }

  // ---- 43. count

  static void promise43WhatIs0To5() {
    beyond("-1", y -> y.count(-1));
    beyond("6", y -> y.count(6));
    beyond("the least int", y -> y.count(Edges.LEAST));
    beyond("the greatest int", y -> y.count(Edges.MOST));
  }

  static void promise43NothingThere() {
    int[] wants = {0, 0, 0, 0, 1, 0};
    for (int what = 0; what < 6; what++) {
      int asked = what;
      Edges.asked("count(" + what + ")", PeaSpoons::new, y -> y.count(asked), wants[what]);
    }
  }

  static void promise43AsMuchAsThereMayBe() {
    PeaSpoons x = Edges.full();
    x.child(3, 1);
    for (int food = 0; food < 10; food++) {
      x.food(food, 0, 1);
    }
    int[] wants = {10, 10, 36, 120, x.seed(-7), 10};
    wants[4] = -7;
    for (int what = 0; what < 6; what++) {
      due("count(" + what + ")", x.count(what), wants[what]);
    }
    x.food(9, 0, 0);
    due("one less is liked", x.count(1), 9);
  }

  static void promise43TriedOfAllFoodsTogether() {
    PeaSpoons x = new PeaSpoons();
    for (int food = 0; food < 10; food++) {
      x.taste(Edges.LICKED, food, 1);
    }
    Edges.goOn(x, 9989);
    due("999 of nine, 998 of one", x.count(2), 9989);
    x.meals(1);
    due("999 of each", x.count(2), 9990);
    x.meals(70);
    due("999 of each at most", x.count(2), 9990);
  }

  static void promise43ZMayBeAFindingsNumber() {
    PeaSpoons x = new PeaSpoons();
    int[] all = {Edges.BEYOND, Edges.SIZE, Edges.LEAST, Edges.MOST, 0};
    for (int z : all) {
      x.seed(z);
      due("z", x.count(4), z);
    }
    due("findings", x.status(-1), 0);
  }

  // ---- 44. status

  /** Calls that answer each finding, from BEYOND to SIZE, the one of STATE at meal 99999. */
  private static final Edges.Call[] FINDING = {y -> y.pudding(10), y -> y.feed(0, 1), y -> y.as(0, 6), y -> y.undo(),
      y -> y.meals(1), y -> y.load(0), y -> y.sheet(0, 8, -1)};

  private static PeaSpoons ready(PeaSpoons x) {
    x.wipe();
    Edges.feed(x, " ".repeat(120));
    x.taste(Edges.LICKED, 0, 1);
    x.hold(0, 0);
    return x;
  }

  private static boolean isState(int which) {
    return Edges.BEYOND - which == Edges.STATE;
  }

  static void promise44EachFindingByItself() {
    for (int which = 0; which < 7; which++) {
      Edges.Scene scene = isState(which) ? () -> ready(Edges.late(99999)) : () -> ready(new PeaSpoons());
      Edges.refused("finding " + which, scene, FINDING[which], Edges.BEYOND - which);
    }
  }

  static void promise44AllTogether() {
    PeaSpoons x = ready(new PeaSpoons());
    int all = 0;
    for (int which = 0; which < 7; which++) {
      for (int times = 0; times <= which && !isState(which); times++) {
        FINDING[which].on(x);
        all++;
        due("all", x.status(-1), all);
      }
    }
    for (int which = 0; which < 7; which++) {
      due("status(" + which + ")", x.status(which), isState(which) ? 0 : which + 1);
    }
  }

  static void promise44BeyondIsCountedFromThenOn() {
    PeaSpoons x = new PeaSpoons();
    due("none", x.status(-1), 0);
    due("none", x.status(0), 0);
    due("7", x.status(7), Edges.BEYOND);
    due("counted", x.status(0), 1);
    due("-2", x.status(-2), Edges.BEYOND);
    due("counted", x.status(-1), 2);
    beyond("-2", y -> y.status(-2));
    beyond("7", y -> y.status(7));
    beyond("the least int", y -> y.status(Edges.LEAST));
    beyond("the greatest int", y -> y.status(Edges.MOST));
  }

  static void promise44UndoTakesNoneBack() {
    PeaSpoons x = ready(new PeaSpoons());
    due("undo, of none", x.undo(), Edges.NONE);
    x.image();
    int[] all = {0, 1, 2, 5, 6};
    for (int which : all) {
      FINDING[which].on(x);
    }
    due("undo", x.undo(), 0);
    for (int which = 0; which < 7; which++) {
      due("status(" + which + ")", x.status(which), isState(which) ? 0 : 1);
    }
    due("all", x.status(-1), 6);
  }

  static void promise44AFaultOfATextIsNoFinding() {
    PeaSpoons x = new PeaSpoons();
    due("text", x.text(), -1);
    due("all", x.status(-1), 0);
    Edges.asked("asking is none", y -> y.status(-1), 0);
  }
}
