/** The bounds that promises 30 to 32, and the third paragraph, name. */
public final class TextsEdgeTest {
  private static final String BLANKS = " ".repeat(120);

  public static void main(String[] args) throws Exception {
    Edges.run(TextsEdgeTest.class);
  }

  private static void due(String what, long got, long want) {
    Edges.due(what, got, want);
  }

  private static PeaSpoons taped(String text) {
    PeaSpoons x = new PeaSpoons();
    Edges.feed(x, text);
    return x;
  }

  /** The text has so many items. */
  private static PeaSpoons told(String text, int items) {
    PeaSpoons x = taped(text);
    due("'" + text + "'", x.text(), items);
    due("'" + text + "', then the tape", x.count(3), 0);
    due("'" + text + "', then findings", x.status(-1), 0);
    return x;
  }

  private static void fault(String text, int place) {
    fault(PeaSpoons::new, text, place);
  }

  /** The fault is at this place, it is no finding, and the tape is empty as wipe() makes it: nothing else. */
  private static void fault(Edges.Scene scene, String text, int place) {
    PeaSpoons x = scene.made();
    PeaSpoons y = scene.made();
    x.wipe();
    y.wipe();
    Edges.feed(x, text);
    int findings = x.status(-1);
    due("'" + text + "'", x.text(), -1 - place);
    due("'" + text + "', then the tape", x.count(3), 0);
    due("'" + text + "', then findings", x.status(-1), findings);
    Edges.due("'" + text + "', then all", Edges.everything(x), Edges.everything(y));
  }

  // ---- 30. feed

  private static PeaSpoons filled(int bytes) {
    return taped(BLANKS.substring(0, bytes));
  }

  static void promise30NIs1To4() {
    PeaSpoons x = new PeaSpoons();
    due("1", x.feed(-1, 1), 1);
    due("2", x.feed(-1, 2), 3);
    due("3", x.feed(-1, 3), 6);
    due("4", x.feed(-1, 4), 10);
    int[] bad = {0, 5, -1, Edges.LEAST, Edges.MOST};
    for (int n : bad) {
      Edges.refused("n " + n, y -> y.feed(32, n), Edges.BEYOND);
    }
  }

  static void promise30From0To120Bytes() {
    due("1 behind 119", filled(119).feed(32, 1), 120);
    due("2 behind 118", filled(118).feed(32, 2), 120);
    due("3 behind 117", filled(117).feed(32, 3), 120);
    due("4 behind 116", filled(116).feed(32, 4), 120);
    for (int n = 1; n <= 4; n++) {
      int bytes = n;
      Edges.refused(n + " behind " + (121 - n), () -> filled(121 - bytes), y -> y.feed('x', bytes), Edges.FULL);
      Edges.refused(n + " behind 120", () -> filled(120), y -> y.feed('x', bytes), Edges.FULL);
    }
  }

  static void promise30BeyondIsToldAheadOfFull() {
    Edges.refused("0 behind 120", () -> filled(120), y -> y.feed(32, 0), Edges.BEYOND);
    Edges.refused("5 behind 120", () -> filled(120), y -> y.feed(32, 5), Edges.BEYOND);
    Edges.refused("5 behind 118", () -> filled(118), y -> y.feed(32, 5), Edges.BEYOND);
  }

  static void promise30TheLowestBytesTheHighestOfTheseFirst() {
    PeaSpoons x = new PeaSpoons();
    x.feed(('l' << 24) | ('i' << 16) | ('n' << 8) | 'e', 4);
    x.feed(('x' << 24) | ('7' << 16) | ('6' << 8) | ';', 3);
    x.feed(('x' << 24) | ('x' << 16) | ('b' << 8) | 'e', 2);
    x.feed(('x' << 24) | ('x' << 16) | ('x' << 8) | 'n', 1);
    x.feed('t', 1);
    x.feed('8', 1);
    due("text", x.text(), 2);
    due("line", x.now(5), 76);
    due("bent", x.now(2), 8);
    // a byte of 255, the highest of four below 0
    x.feed(('f' << 24) | ('o' << 16) | ('o' << 8) | 'd', 4);
    x.feed(0xff313131, 4);
    due("255 behind the word", x.text(), -1 - 4);
  }

  // ---- 31. wipe

  static void promise31From0To120Bytes() {
    due("0", new PeaSpoons().wipe(), 0);
    int[] all = {1, 119, 120};
    for (int bytes : all) {
      PeaSpoons x = filled(bytes);
      due("wipe", x.wipe(), bytes);
      due("then", x.count(3), 0);
      due("again", x.wipe(), 0);
      due("feed", x.feed(32, 1), 1);
    }
    PeaSpoons x = Edges.rich();
    x.wipe();
    due("a text that is wiped", x.text(), -1);
    due("isn't told", x.now(5), 48);
  }

  // ---- 32. text: the tape and its tokens

  static void promise32AnEmptyTapeEndsTooEarlyAt0() {
    fault("", 0);
    fault(" ", 1);
    fault(BLANKS, 120);
  }

  static void promise32AFullTapeIsReadToItsEnd() {
    told("food" + "0".repeat(116), 1);
    told("food 9" + BLANKS.substring(6), 1);
    told(BLANKS.substring(6) + "line 7", 1);
    fault(BLANKS.substring(4) + "line", 120);
    fault(BLANKS.substring(5) + "line ", 120);
    fault("line 7" + BLANKS.substring(7) + ";", 120);
    fault("line 7" + BLANKS.substring(7) + "8", 119);
    fault("a".repeat(120), 0);
    fault(";".repeat(120), 0);
  }

  static void promise32TokensAreAsLongAsCanBe() {
    told("food3like5bitter7", 1);
    told("  food  3  like  5  bitter  7  ", 1);
    told("friend 1 2", 1);
    fault("friend12", 6);
    fault("foodlike 3", 0);
    fault("food 1 likebitter 3", 7);
    fault("bent 1 0", 7);
    fault("foo d 1", 0);
    fault("food 1;bentbent 1", 7);
  }

  static void promise32WordsAreOfLettersAToZ() {
    fault("food`1", 4);
    fault("food{1", 4);
    fault("fooda1", 0);
    fault("foodz1", 0);
    fault("`food1", 0);
    fault("Food 1", 0);
    fault("foodS1", 4);
    fault("food 1 Like 3", 7);
  }

  static void promise32NumbersAreOfDigits() {
    PeaSpoons x = told("weight 1234;bent 5;line 67;hunger 89", 4);
    due("weight", x.now(4), 1234);
    due("bent", x.now(2), 5);
    due("line", x.now(5), 67);
    due("hunger", x.now(3), 89);
    fault("food 1/", 6);
    fault("food 1:", 6);
    fault("food /1", 5);
    fault("food :1", 5);
    fault("food -1", 5);
    fault("food +1", 5);
    told("food 0", 1);
    told("food 9", 1);
    due("zeros ahead", told("weight 00000000000000009999", 1).now(4), 9999);
  }

  static void promise32NumbersAre9999AtMost() {
    due("9999", told("weight 9999", 1).now(4), 9999);
    fault("weight 10000", 7);
    fault("weight 99990", 7);
    fault("weight 65536", 7);
    fault("weight 4294967296", 7);
    fault("weight 4294967297", 7);
    fault("weight 18446744073709551617", 7);
    fault("weight " + "9".repeat(113), 7);
    fault("food 4294967299", 5);
  }

  static void promise32OnlyBlanksMayStandBetween() {
    for (int b = 0; b < 256; b++) {
      PeaSpoons x = taped("line");
      x.feed(b, 1);
      x.feed('7', 1);
      boolean isDigit = b >= '0' && b <= '9';
      boolean isLetter = b >= 'a' && b <= 'z';
      int want = b == ' ' || b == '0' || isDigit ? 1 : isLetter ? -1 : -1 - 4;
      due("line, byte " + b + ", 7", x.text(), want);
      due("line is", x.now(5), b == ' ' ? 7 : isDigit ? (b - '0') * 10 + 7 : 50);
    }
  }

  // ---- 32. text: items

  static void promise32ItemsWithASignBetween() {
    told("food 1", 1);
    told("food 1;food 2", 2);
    told("food 1 ; food 2", 2);
    fault(";food 1", 0);
    fault("food 1;", 7);
    fault("food 1; ", 8);
    fault("food 1;;food 2", 7);
    fault("food 1 food 2", 7);
    fault("food 1 ;", 8);
    fault(";", 0);
    fault("food 1;;", 7);
  }

  static void promise32AsManyItemsAsATapeHolds() {
    StringBuilder all = new StringBuilder("bent0");
    for (int i = 1; i < 20; i++) {
      all.append(";bent").append(i % 10);
    }
    due("bent by the last of 20", told(all.toString(), 20).now(2), 9);
    fault(all + ";", 120);
  }

  static void promise32FoodLikeAndBitterAtTheirBounds() {
    PeaSpoons x = told("food 0 like 0 bitter 9;food 9 like 99 bitter 0", 2);
    due("like of 0", x.foodOf(0, 0), 0);
    due("bitter of 0", x.foodOf(0, 1), 9);
    due("like of 9", x.foodOf(9, 0), 99);
    due("bitter of 9", x.foodOf(9, 1), 0);
    fault("food 10", 5);
    fault("food 10 like 5", 5);
    fault("food 1 like 100", 12);
    fault("food 1 bitter 10", 14);
    fault("food 1 like 5 bitter 10", 21);
    fault("food 1 like 100 bitter 10", 12);
  }

  static void promise32LikeAndBitterPerhaps() {
    Edges.due("neither", Edges.everything(told("food 4", 1)), Edges.everything(new PeaSpoons()));
    PeaSpoons x = told("food 4 like 7;food 5 bitter 8", 2);
    due("like alone", x.foodOf(4, 0), 7);
    due("bitter as it was", x.foodOf(4, 1), 0);
    due("bitter alone", x.foodOf(5, 1), 8);
    due("like as it was", x.foodOf(5, 0), 20);
    fault("food 4 bitter 8 like 7", 16);
    fault("food 4 like 7 like 8", 14);
    fault("food 4 bitter 7 bitter 8", 16);
    fault("food 4 7", 7);
    fault("food 4 put 7", 7);
    fault("food", 4);
    fault("food ", 5);
    fault("food;", 4);
    fault("food like 3", 5);
    fault("food 4 like", 11);
    fault("food 4 like;", 11);
    fault("food 4 like bitter 3", 12);
    fault("food 4 bitter", 13);
    fault("food 4 like 5 bitter ", 21);
  }

  private static void part(String word, int what, int least, int most) {
    due(word, told(word + " " + least, 1).now(what), least);
    due(word, told(word + " " + most, 1).now(what), most);
    int place = word.length() + 1;
    if (least > 0) {
      fault(word + " " + (least - 1), place);
    }
    fault(word + " " + (most + 1), place);
    fault(word, place - 1);
    fault(word + ";", place - 1);
    fault(word + " " + word, place);
    fault(word + " " + least + " " + least, place + 2);
    fault("x" + word + " 1", 0);
    fault(word + "x 1", 0);
    fault(word.substring(1) + " 1", 0);
    fault(word.substring(0, word.length() - 1) + " 1", 0);
  }

  static void promise32BentIs0To9() {
    part("bent", 2, 0, 9);
  }

  static void promise32HungerIs0To99() {
    part("hunger", 3, 0, 99);
  }

  static void promise32WeightIs0To9999() {
    part("weight", 4, 0, 9999);
  }

  static void promise32LineIs1To99() {
    part("line", 5, 1, 99);
  }

  static void promise32PuddingIs0To9() {
    part("pudding", 6, 0, 9);
  }

  static void promise32FriendOfOneToTenNumbersEachAboveTheOneAhead() {
    due("0", told("friend 0", 1).now(7), 1);
    due("9", told("friend 9", 1).now(7), 512);
    due("all", told("friend 0 1 2 3 4 5 6 7 8 9", 1).now(7), 1023);
    due("0 and 9", told("friend 0 9;bent 1", 2).now(7), 513);
    fault("friend", 6);
    fault("friend ", 7);
    fault("friend;", 6);
    fault("friend bent 1", 7);
    fault("friend 10", 7);
    fault("friend 1 1", 9);
    fault("friend 2 1", 9);
    fault("friend 0 0", 9);
    fault("friend 1 3 2", 11);
    fault("friend 1 10", 9);
    fault("friend 9 10", 9);
    fault("friend 0 1 2 3 4 5 6 7 8 9 9", 27);
    fault("friend 0 1 2 3 4 5 6 7 8 9 10", 27);
    fault("friend 0 1 2 3 4 5 6 7 8 9 x", 27);
    fault("friend 3 put 4", 9);
  }

  static void promise32FriendIsJustThese() {
    PeaSpoons x = new PeaSpoons();
    x.friend(1023);
    due("text", Edges.tell(x, "friend 4"), 1);
    due("friend", x.now(7), 16);
    due("text", Edges.tell(x, "friend 1 2;friend 5 6"), 2);
    due("friend", x.now(7), 96);
  }

  // ---- 32. text: tastes

  private static final String[] KINDS = {"taste", "licked", "pressed", "paid", "copied", "grown", "hidden"};

  static void promise32ATasteOfEachKindAtItsBounds() {
    for (int kind = 0; kind < 7; kind++) {
      String word = KINDS[kind];
      PeaSpoons x = told(word + " 0 put 1;" + word + " 9 put 20;" + word + " 4", 3);
      due("how many", x.count(0), 3);
      int[] foods = {0, 9, 4};
      int[] puts = {1, 20, 5};
      for (int taste = 0; taste < 3; taste++) {
        due("kind", x.tasteOf(taste, 0), kind);
        due("food", x.tasteOf(taste, 1), foods[taste]);
        due("put", x.tasteOf(taste, 2), puts[taste]);
      }
      int place = word.length();
      fault(word, place);
      fault(word + ";", place);
      fault(word + " 10", place + 1);
      fault(word + " put 3", place + 1);
      fault(word + " 1 put", place + 6);
      fault(word + " 1 put;", place + 6);
      fault(word + " 1 put 0", place + 7);
      fault(word + " 1 put 21", place + 7);
      fault(word + " 1 put 3 put 4", place + 9);
      fault(word + " 1 3", place + 3);
      fault(word + " 1 like 3", place + 3);
      fault(word + "x 1", 0);
      fault(word.substring(0, place - 1) + " 1", 0);
    }
  }

  private static PeaSpoons tasted(int tastes) {
    PeaSpoons x = new PeaSpoons();
    for (int i = 0; i < tastes; i++) {
      x.taste(Edges.TASTE, i, 1);
    }
    return x;
  }

  static void promise32TheWordOfAn11thTaste() {
    for (int kind = 0; kind < 7; kind++) {
      String word = KINDS[kind];
      fault(() -> tasted(10), word + " 1", 0);
      fault(() -> tasted(10), "  " + word, 2);
      fault(() -> tasted(10), word + " 99", 0);
      fault(() -> tasted(9), "bent 1;" + word + " 1;" + word + " 1", 7 + word.length() + 3);
      PeaSpoons x = tasted(9);
      due("the 10th", Edges.tell(x, word + " 9"), 1);
      due("is", x.tasteOf(9, 0), kind);
    }
    PeaSpoons x = told("paid 0;paid 1;paid 2;paid 3;paid 4;paid 5;paid 6;paid 7;paid 8;paid 9", 10);
    due("ten", x.count(0), 10);
    due("the last", x.tasteOf(9, 1), 9);
    fault("paid 0;paid 1;paid 2;paid 3;paid 4;paid 5;paid 6;paid 7;paid 8;paid 9;paid 0", 70);
    PeaSpoons y = tasted(10);
    due("no taste", Edges.tell(y, "bent 1;food 3;pudding 4"), 3);
  }

  // ---- 32. text: all of it, or nothing

  static void promise32AnotherWordCanNotStandThere() {
    String[] words = {"like", "bitter", "put", "foods", "x", "child", "foo", "kind"};
    for (String word : words) {
      fault(word + " 1", 0);
      fault("food 1;" + word + " 1", 7);
      if (!word.equals("like") && !word.equals("bitter")) {
        fault("food 1 " + word + " 1", 7);
      }
    }
    fault("1", 0);
    fault("1 food", 0);
    fault("food one", 5);
    fault("food food 1", 5);
  }

  /** A word with any one letter for another is another word. */
  static void promise32EachLetterOfAWordCounts() {
    String[] begins = {"food", "bent", "hunger", "weight", "line", "pudding", "friend"};
    for (String word : begins) {
      misspelt("", word);
    }
    for (String word : KINDS) {
      misspelt("", word);
    }
    misspelt("food 1 ", "like");
    misspelt("food 1 ", "bitter");
    misspelt("food 1 like 2 ", "bitter");
    misspelt("taste 1 ", "put");
  }

  private static void misspelt(String ahead, String word) {
    told(ahead + word + " 1", 1);
    for (int i = 0; i < word.length(); i++) {
      fault(ahead + word.substring(0, i) + "z" + word.substring(i + 1) + " 1", ahead.length());
    }
  }

  static void promise32WithAFaultNothingChangesButTheTape() {
    String begin = "food 1 like 2 bitter 3;bent 9;hunger 8;weight 7;line 6;pudding 5;friend 4;taste 3";
    fault(Edges::rich, begin + ";x", begin.length() + 1);
    fault(Edges::rich, begin + ";", begin.length() + 1);
    fault(Edges::rich, begin + " put 21", begin.length() + 5);
    fault(Edges::rich, begin + ";food 1 like 100", begin.length() + 13);
    fault(Edges::rich, "friend 1 2 2", 11);
    fault(Edges::rich, "food 1 like 5 bitter 10", 21);
  }

  static void promise32AllThatItTellsIsSoItemByItem() {
    PeaSpoons x = told("food 1 like 2;food 1 like 3 bitter 4;food 1 bitter 5;bent 1;bent 2;line 3;line 4", 7);
    due("like", x.foodOf(1, 0), 3);
    due("bitter", x.foodOf(1, 1), 5);
    due("bent", x.now(2), 2);
    due("line", x.now(5), 4);
    PeaSpoons y = Edges.rich();
    due("the tape of the other", y.text(), 1);
    due("line", y.now(5), 88);
    due("meal stays", y.now(0), 9);
    due("z stays", y.count(4), 77);
    due("the new taste", Edges.tell(y, "grown 8 put 3"), 1);
    due("is the last", y.tasteOf(7, 1), 8);
    due("spots stay", y.as(9, Edges.HIDDEN), 6);
    due("the image stays", y.undo(), 3);
  }
}
