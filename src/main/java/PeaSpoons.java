import java.util.Arrays;

/** A child who will not eat; every public method is told by its promise in the document. */
public final class PeaSpoons {
  private static final int BEYOND = -1000001;
  private static final int FULL = BEYOND - 1;
  private static final int KIND = BEYOND - 2;
  private static final int NONE = BEYOND - 3;
  private static final int STATE = BEYOND - 4;
  private static final int MISSING = BEYOND - 5;
  private static final int SIZE = BEYOND - 6;
  private static final int FINDINGS = 7;

  private static final int TASTE = 0;
  private static final int LICKED = 1;
  private static final int PRESSED = 2;
  private static final int PAID = 3;
  private static final int COPIED = 4;
  private static final int GROWN = 5;
  private static final int HIDDEN = 6;
  private static final int KINDS = 7;
  private static final int[] KIND_ABOVE = {-1, TASTE, TASTE, PRESSED, TASTE, COPIED, TASTE};

  private static final int OF_KIND = 0;
  private static final int OF_FOOD = 1;
  private static final int OF_PUT = 2;

  private static final int BENT = 0;
  private static final int HUNGER = 1;
  private static final int WEIGHT = 2;
  private static final int LINE = 3;

  private static final int FOODS = 10;
  private static final int TASTES = 10;
  private static final int SPOTS = 10;
  private static final int SHEETS = 4;
  private static final int SHEET_NUMBERS = 40;
  private static final int TAPE_BYTES = 120;
  private static final int BOOK_MEALS = 35;
  private static final int SHORT_WEEK = 100;
  private static final int DAY_MEALS = 5;
  private static final int LAST_MEAL = 99999;
  private static final int TOP_LIKE = 99;
  private static final int TOP_BITTER = 9;
  private static final int TOP_TRIED = 999;
  private static final int TOP_HUNGER = 99;
  private static final int TOP_WEIGHT = 9999;
  private static final int TOP_PUT = 20;
  private static final int TOP_NUMBER = 9999;

  private final Child child;
  /** What goes on ahead, and what a text tells till it is known to be whole. */
  private final Child trial;
  private final Child kept;
  private boolean isKept;
  private final Tape tape;
  private final Sheet[] sheets;
  private final int[] findings;

  public PeaSpoons() {
    child = new Child();
    trial = new Child();
    kept = new Child();
    isKept = false;
    tape = new Tape();
    sheets = new Sheet[SHEETS];
    for (int s = 0; s < SHEETS; s++) {
      sheets[s] = new Sheet();
    }
    findings = new int[FINDINGS];
  }

  private int finding(int answer) {
    int which = BEYOND - answer;
    if (within(which, 0, FINDINGS - 1)) {
      findings[which]++;
    }
    return answer;
  }

  private static boolean within(int v, int low, int top) {
    return v >= low && v <= top;
  }

  private static boolean isFood(int v) {
    return within(v, 0, FOODS - 1);
  }

  private static boolean isKind(int v) {
    return within(v, 0, KINDS - 1);
  }

  private static boolean isPut(int v) {
    return within(v, 1, TOP_PUT);
  }

  private static int partLow(int part) {
    return part == LINE ? 1 : 0;
  }

  /** Below every low bound where there is no such part. */
  private static int partTop(int part) {
    switch (part) {
      case BENT: return 9;
      case HUNGER: return TOP_HUNGER;
      case WEIGHT: return TOP_WEIGHT;
      case LINE: return 99;
      default: return -1;
    }
  }

  private static int traitLow(int what) {
    return what == OF_PUT ? 1 : 0;
  }

  /** Below every low bound where a taste has no such trait. */
  private static int traitTop(int what) {
    switch (what) {
      case OF_KIND: return KINDS - 1;
      case OF_FOOD: return FOODS - 1;
      case OF_PUT: return TOP_PUT;
      default: return -1;
    }
  }

  private boolean isTaste(int v) {
    return within(v, 0, child.plan.size - 1);
  }

  private boolean isPastLast(int n) {
    return child.meal > LAST_MEAL - n;
  }

  // ---- foods, the child

  public int food(int food, int what, int v) {
    if (!isFood(food)) {
      return finding(BEYOND);
    }
    if (what == 0 && within(v, 0, TOP_LIKE)) {
      return replaced(child.like, food, v);
    }
    if (what == 1 && within(v, 0, TOP_BITTER)) {
      return replaced(child.bitter, food, v);
    }
    return finding(BEYOND);
  }

  private static int replaced(int[] row, int i, int v) {
    int was = row[i];
    row[i] = v;
    return was;
  }

  public int foodOf(int food, int what) {
    if (!isFood(food)) {
      return finding(BEYOND);
    }
    switch (what) {
      case 0: return child.like[food];
      case 1: return child.bitter[food];
      case 2: return child.tried[food];
      case 3: return child.isLiked(food) ? 1 : 0;
      default: return finding(BEYOND);
    }
  }

  public int child(int what, int v) {
    if (!within(v, partLow(what), partTop(what))) {
      return finding(BEYOND);
    }
    int was = child.part(what);
    child.setPart(what, v);
    return was;
  }

  public int pudding(int food) {
    if (food != -1 && !isFood(food)) {
      return finding(BEYOND);
    }
    int was = child.pudding;
    child.pudding = food;
    return was;
  }

  public int friend(int foods) {
    if (!within(foods, 0, (1 << FOODS) - 1)) {
      return finding(BEYOND);
    }
    int was = child.friend;
    child.friend = foods;
    return was;
  }

  public int liked() {
    return child.likedSet();
  }

  public int next() {
    int best = -1;
    for (int food = 0; food < FOODS; food++) {
      if (!child.isLiked(food) && (best < 0 || child.like[food] > child.like[best])) {
        best = food;
      }
    }
    return best < 0 ? finding(NONE) : best;
  }

  // ---- tastes

  public int taste(int kind, int food, int put) {
    if (!isKind(kind) || !isFood(food) || !isPut(put)) {
      return finding(BEYOND);
    }
    if (child.plan.isFull()) {
      return finding(FULL);
    }
    return child.plan.add(kind, food, put);
  }

  public int tasteOf(int taste, int what) {
    if (!isTaste(taste)) {
      return finding(BEYOND);
    }
    switch (what) {
      case 0: return child.plan.kinds[taste];
      case 1: return child.plan.foods[taste];
      case 2: return child.plan.puts[taste];
      case 3: return child.eats(taste, false);
      case 4: return child.moves(taste, false);
      default: return finding(BEYOND);
    }
  }

  public int change(int taste, int what, int v) {
    if (!isTaste(taste)) {
      return finding(BEYOND);
    }
    if (!within(v, traitLow(what), traitTop(what))) {
      return finding(BEYOND);
    }
    return replaced(child.plan.row(what), taste, v);
  }

  public int swap(int one, int other) {
    if (!isTaste(one) || !isTaste(other)) {
      return finding(BEYOND);
    }
    child.plan.exchange(one, other);
    return 1;
  }

  public int drop() {
    if (child.plan.size == 0) {
      return finding(NONE);
    }
    child.plan.size--;
    child.freeSpotsOf(child.plan.size);
    return child.plan.size;
  }

  // ---- meals

  public int meals(int n) {
    if (!within(n, 1, 70)) {
      return finding(BEYOND);
    }
    if (isPastLast(n)) {
      return finding(STATE);
    }
    return child.goOn(n);
  }

  public int now(int what) {
    switch (what) {
      case 0: return child.meal;
      case 1: return child.meal / DAY_MEALS;
      case 2: return child.bent;
      case 3: return child.hunger;
      case 4: return child.weight;
      case 5: return child.line;
      case 6: return child.pudding;
      case 7: return child.friend;
      case 8: return child.week();
      case 9: return child.booked();
      case 10: return child.isShort() ? 1 : 0;
      default: return finding(BEYOND);
    }
  }

  public int book(int i) {
    if (!within(i, 0, child.booked() - 1)) {
      return finding(BEYOND);
    }
    return child.spoonsAgo(i);
  }

  public int day(int ago) {
    if (!within(ago, 0, 7)) {
      return finding(BEYOND);
    }
    if (child.booked() == 0) {
      return finding(NONE);
    }
    int latest = child.meal - 1;
    int wanted = latest / DAY_MEALS - ago;
    int sum = 0;
    for (int i = 0; i < child.booked(); i++) {
      if ((latest - i) / DAY_MEALS == wanted) {
        sum += child.spoonsAgo(i);
      }
    }
    return sum;
  }

  public int spread() {
    if (child.booked() == 0) {
      return finding(NONE);
    }
    int least = child.spoonsAgo(0);
    int most = least;
    for (int i = 1; i < child.booked(); i++) {
      least = Math.min(least, child.spoonsAgo(i));
      most = Math.max(most, child.spoonsAgo(i));
    }
    return most - least;
  }

  // ---- ahead

  public int ahead(int n, int what) {
    if (!within(n, 0, 350) || !within(what, 0, 3 + FOODS)) {
      return finding(BEYOND);
    }
    if (isPastLast(n)) {
      return finding(STATE);
    }
    trial.become(child);
    int eaten = trial.goOn(n);
    switch (what) {
      case 0: return eaten;
      case 1: return trial.likedSet();
      case 2: return trial.weight;
      case 3: return trial.hunger;
      default: return trial.like[what - 4];
    }
  }

  public int when(int food) {
    if (!isFood(food)) {
      return finding(BEYOND);
    }
    if (isPastLast(350)) {
      return finding(STATE);
    }
    trial.become(child);
    return mealsTillLiked(food, 350);
  }

  public int times(int taste) {
    if (!isTaste(taste)) {
      return finding(BEYOND);
    }
    if (isPastLast(99)) {
      return finding(STATE);
    }
    trial.become(child);
    trial.plan.keepOnly(taste);
    return mealsTillLiked(child.plan.foods[taste], 99);
  }

  private int mealsTillLiked(int food, int most) {
    for (int n = 0; n < most; n++) {
      if (trial.isLiked(food)) {
        return n;
      }
      trial.serveMeal();
    }
    return trial.isLiked(food) ? most : finding(NONE);
  }

  public int kindFor(int taste, int n) {
    return bestFor(taste, n, OF_KIND);
  }

  public int foodFor(int taste, int n) {
    return bestFor(taste, n, OF_FOOD);
  }

  public int putFor(int taste, int n) {
    return bestFor(taste, n, OF_PUT);
  }

  /** A put is best by spoons eaten, a kind and a food by how many foods are liked. */
  private int bestFor(int taste, int n, int what) {
    if (!isTaste(taste) || !within(n, 1, 175)) {
      return finding(BEYOND);
    }
    if (isPastLast(n)) {
      return finding(STATE);
    }
    int best = -1;
    int most = -1;
    for (int v = traitLow(what); v <= traitTop(what); v++) {
      trial.become(child);
      trial.plan.row(what)[taste] = v;
      int eaten = trial.goOn(n);
      int score = what == OF_PUT ? eaten : Integer.bitCount(trial.likedSet());
      if (score > most) {
        most = score;
        best = v;
      }
    }
    return best;
  }

  public int paid(int n) {
    if (!within(n, 0, 175)) {
      return finding(BEYOND);
    }
    if (isPastLast(n)) {
      return finding(STATE);
    }
    int pudding = child.pudding;
    if (!isFood(pudding)) {
      return finding(NONE);
    }
    trial.become(child);
    trial.goOn(n);
    int asItIs = trial.like[pudding];
    trial.become(child);
    trial.plan.pressThePaid();
    trial.goOn(n);
    return asItIs - trial.like[pudding];
  }

  public int worry() {
    if (isPastLast(175)) {
      return finding(STATE);
    }
    trial.become(child);
    for (int n = 1; n <= 175; n++) {
      trial.serveMeal();
      if (trial.isShort()) {
        return n;
      }
    }
    return finding(NONE);
  }

  private int likedBehind(int n) {
    trial.goOn(n);
    return Integer.bitCount(trial.likedSet());
  }

  public int order(int n) {
    if (!within(n, 1, 70)) {
      return finding(BEYOND);
    }
    if (isPastLast(n)) {
      return finding(STATE);
    }
    trial.become(child);
    int most = likedBehind(n);
    int best = -1;
    for (int one = 0; one < child.plan.size; one++) {
      for (int other = one + 1; other < child.plan.size; other++) {
        trial.become(child);
        trial.plan.exchange(one, other);
        int count = likedBehind(n);
        if (count > most) {
          most = count;
          best = 10 * one + other;
        }
      }
    }
    return best < 0 ? finding(NONE) : best;
  }

  public int chance(int food, int n, int t) {
    if (!isFood(food) || !within(n, 1, 20) || !within(t, 0, 70)) {
      return finding(BEYOND);
    }
    if (isPastLast(t)) {
      return finding(STATE);
    }
    int often = 0;
    for (int i = 0; i < n; i++) {
      trial.become(child);
      trial.goOn(t);
      child.z = trial.z;
      if (trial.isLiked(food)) {
        often++;
      }
    }
    return often;
  }

  public int seed(int v) {
    int was = child.z;
    child.z = v;
    return was;
  }

  // ---- texts

  public int feed(int bytes, int n) {
    if (!within(n, 1, 4)) {
      return finding(BEYOND);
    }
    if (tape.size > TAPE_BYTES - n) {
      return finding(FULL);
    }
    for (int i = n - 1; i >= 0; i--) {
      tape.add((bytes >>> (8 * i)) & 255);
    }
    return tape.size;
  }

  public int wipe() {
    int had = tape.size;
    tape.size = 0;
    return had;
  }

  public int text() {
    trial.become(child);
    int items = Text.read(tape, trial);
    tape.size = 0;
    if (items < 0) {
      return -1 - tape.place();
    }
    child.become(trial);
    return items;
  }

  // ---- spots, sheets

  public int hold(int spot, int taste) {
    if (!within(spot, 0, SPOTS - 1) || (taste != -1 && !isTaste(taste))) {
      return finding(BEYOND);
    }
    child.spots[spot] = taste;
    return 1;
  }

  public int as(int spot, int kind) {
    if (!within(spot, 0, SPOTS - 1) || !isKind(kind)) {
      return finding(BEYOND);
    }
    int taste = child.spots[spot];
    if (!isTaste(taste)) {
      return finding(MISSING);
    }
    return isUnder(child.plan.kinds[taste], kind) ? taste : finding(KIND);
  }

  private static boolean isUnder(int kind, int above) {
    int k = kind;
    for (int level = 0; level < KINDS && isKind(k); level++) {
      if (k == above) {
        return true;
      }
      k = KIND_ABOVE[k];
    }
    return false;
  }

  private static boolean isSheet(int s) {
    return within(s, 0, SHEETS - 1);
  }

  public int sheet(int s, int bits, int n) {
    if (!isSheet(s) || (bits != 0 && bits != 8 && bits != 16 && bits != 32)) {
      return finding(BEYOND);
    }
    if (n < 0) {
      return finding(SIZE);
    }
    if (n > SHEET_NUMBERS) {
      return finding(BEYOND);
    }
    sheets[s].lay(bits, n);
    return sheets[s].size;
  }

  public int write(int s, int i, int v) {
    if (!isSheet(s)) {
      return finding(BEYOND);
    }
    Sheet sheet = sheets[s];
    if (sheet.isMissing()) {
      return finding(MISSING);
    }
    if (!within(i, 0, sheet.size - 1)) {
      return finding(BEYOND);
    }
    sheet.put(i, v);
    return 1;
  }

  public int copy(int s, int from, int t, int to, int n) {
    if (!isSheet(s) || !isSheet(t)) {
      return finding(BEYOND);
    }
    Sheet source = sheets[s];
    Sheet target = sheets[t];
    if (source.isMissing() || target.isMissing()) {
      return finding(MISSING);
    }
    if (source.bits != target.bits) {
      return finding(KIND);
    }
    if (!source.has(from, n) || !target.has(to, n)) {
      return finding(BEYOND);
    }
    System.arraycopy(source.numbers, from, target.numbers, to, n);
    return n;
  }

  public int load(int s) {
    if (!isSheet(s)) {
      return finding(BEYOND);
    }
    Sheet sheet = sheets[s];
    if (sheet.isMissing()) {
      return finding(MISSING);
    }
    int came = 0;
    while (came < sheet.size && came < FOODS && within(sheet.numbers[came], 0, TOP_LIKE)) {
      child.like[came] = sheet.numbers[came];
      came++;
    }
    return came;
  }

  public int judge(int s) {
    if (!isSheet(s)) {
      return finding(BEYOND);
    }
    Sheet sheet = sheets[s];
    if (sheet.isMissing()) {
      return finding(MISSING);
    }
    if (isPastLast(sheet.size)) {
      return finding(STATE);
    }
    trial.become(child);
    for (int i = 0; i < sheet.size; i++) {
      if (trial.serveMeal() != sheet.numbers[i]) {
        return 1 + i;
      }
    }
    return 0;
  }

  // ---- images

  public int image() {
    kept.become(child);
    isKept = true;
    return 1;
  }

  public int undo() {
    if (!isKept) {
      return finding(NONE);
    }
    child.become(kept);
    return child.meal;
  }

  public int tear() {
    int was = isKept ? 1 : 0;
    isKept = false;
    return was;
  }

  public int count(int what) {
    switch (what) {
      case 0: return child.plan.size;
      case 1: return Integer.bitCount(child.likedSet());
      case 2: return child.triedInAll();
      case 3: return tape.size;
      case 4: return child.z;
      case 5: return child.spotsInUse();
      default: return finding(BEYOND);
    }
  }

  public int status(int which) {
    if (!within(which, -1, FINDINGS - 1)) {
      return finding(BEYOND);
    }
    if (which >= 0) {
      return findings[which];
    }
    int all = 0;
    for (int f = 0; f < FINDINGS; f++) {
      all += findings[f];
    }
    return all;
  }

  /** The tastes in their order; rows beyond the size are of no meaning. */
  private static final class Plan {
    final int[] kinds;
    final int[] foods;
    final int[] puts;
    int size;

    Plan() {
      kinds = new int[TASTES];
      foods = new int[TASTES];
      puts = new int[TASTES];
      size = 0;
    }

    void becomePlan(Plan other) {
      System.arraycopy(other.kinds, 0, kinds, 0, TASTES);
      System.arraycopy(other.foods, 0, foods, 0, TASTES);
      System.arraycopy(other.puts, 0, puts, 0, TASTES);
      size = other.size;
    }

    int[] row(int what) {
      switch (what) {
        case OF_KIND: return kinds;
        case OF_FOOD: return foods;
        default: return puts;
      }
    }

    boolean isFull() {
      return size >= TASTES;
    }

    int add(int kind, int food, int put) {
      int taste = size;
      kinds[taste] = kind;
      foods[taste] = food;
      puts[taste] = put;
      size++;
      return taste;
    }

    void exchange(int one, int other) {
      exchangeIn(kinds, one, other);
      exchangeIn(foods, one, other);
      exchangeIn(puts, one, other);
    }

    private static void exchangeIn(int[] row, int one, int other) {
      int v = row[one];
      row[one] = row[other];
      row[other] = v;
    }

    void keepOnly(int taste) {
      exchange(0, taste);
      size = 1;
    }

    void pressThePaid() {
      for (int taste = 0; taste < size; taste++) {
        if (kinds[taste] == PAID) {
          kinds[taste] = PRESSED;
        }
      }
    }
  }

  /** All that an image keeps. */
  private static final class Child {
    final int[] like;
    final int[] bitter;
    final int[] tried;
    int bent;
    int hunger;
    int weight;
    int line;
    int pudding;
    int friend;
    final Plan plan;
    int meal;
    /** The spoons of meal m stand at the rest of m by the meals of a book. */
    final int[] book;
    int z;
    final int[] spots;

    Child() {
      like = new int[FOODS];
      bitter = new int[FOODS];
      tried = new int[FOODS];
      Arrays.fill(like, 20);
      bent = 3;
      hunger = 40;
      weight = 1500;
      line = 50;
      pudding = -1;
      friend = 0;
      plan = new Plan();
      meal = 0;
      book = new int[BOOK_MEALS];
      z = 1;
      spots = new int[SPOTS];
      Arrays.fill(spots, -1);
    }

    void become(Child other) {
      System.arraycopy(other.like, 0, like, 0, FOODS);
      System.arraycopy(other.bitter, 0, bitter, 0, FOODS);
      System.arraycopy(other.tried, 0, tried, 0, FOODS);
      bent = other.bent;
      hunger = other.hunger;
      weight = other.weight;
      line = other.line;
      pudding = other.pudding;
      friend = other.friend;
      plan.becomePlan(other.plan);
      meal = other.meal;
      System.arraycopy(other.book, 0, book, 0, BOOK_MEALS);
      z = other.z;
      System.arraycopy(other.spots, 0, spots, 0, SPOTS);
    }

    int part(int part) {
      switch (part) {
        case BENT: return bent;
        case HUNGER: return hunger;
        case WEIGHT: return weight;
        default: return line;
      }
    }

    void setPart(int part, int v) {
      switch (part) {
        case BENT: bent = v; break;
        case HUNGER: hunger = v; break;
        case WEIGHT: weight = v; break;
        default: line = v; break;
      }
    }

    boolean isLiked(int food) {
      return like[food] >= line;
    }

    int likedSet() {
      int set = 0;
      for (int food = 0; food < FOODS; food++) {
        if (isLiked(food)) {
          set |= 1 << food;
        }
      }
      return set;
    }

    int triedInAll() {
      int sum = 0;
      for (int food = 0; food < FOODS; food++) {
        sum += tried[food];
      }
      return sum;
    }

    boolean friendHas(int food) {
      return ((friend >>> food) & 1) == 1;
    }

    int eats(int taste, boolean isFound) {
      int put = plan.puts[taste];
      int food = plan.foods[taste];
      int plain = put * like[food] * (hunger + 20) / 10000;
      switch (plan.kinds[taste]) {
        case LICKED: return 0;
        case PRESSED: return Math.min(put, plain + 2);
        case PAID: return Math.min(put, plain + 2 + 3);
        case COPIED:
        case GROWN: return Math.min(put, friendHas(food) ? plain + plain / 2 : plain);
        case HIDDEN: return isFound ? 0 : put;
        default: return Math.min(put, plain);
      }
    }

    /** By how much it would move a like that nothing holds. */
    int moves(int taste, boolean isFound) {
      int food = plan.foods[taste];
      int plain = 6 - bitter[food] * bent / 10;
      int copied = friendHas(food) ? plain + 3 : plain;
      switch (plan.kinds[taste]) {
        case LICKED: return plain / 2;
        case PRESSED: return plain - 8;
        case PAID: return plain - 8 + 2;
        case COPIED: return copied;
        case GROWN: return copied + 2;
        case HIDDEN: return isFound ? -10 : 1;
        default: return plain;
      }
    }

    private int drawn() {
      z = z * 1103515245 + 12345;
      return z >>> 8;
    }

    private void moveLike(int food, int by) {
      like[food] = Math.max(0, Math.min(TOP_LIKE, like[food] + by));
    }

    private int serveTaste(int taste) {
      int food = plan.foods[taste];
      int kind = plan.kinds[taste];
      boolean isFound = kind == HIDDEN && drawn() % 10 < bitter[food] + 1;
      int eaten = eats(taste, isFound);
      moveLike(food, moves(taste, isFound));
      if (kind == PAID && isFood(pudding)) {
        moveLike(pudding, 5);
      }
      tried[food] = Math.min(TOP_TRIED, tried[food] + 1);
      return eaten;
    }

    int serveMeal() {
      int eaten = plan.size > 0 ? serveTaste(meal % plan.size) : 0;
      hunger = Math.min(TOP_HUNGER, Math.max(0, hunger - 3 * eaten) + 12);
      weight = Math.max(0, Math.min(TOP_WEIGHT, weight + eaten - 4));
      book[meal % BOOK_MEALS] = eaten;
      meal++;
      return eaten;
    }

    int goOn(int n) {
      int eaten = 0;
      for (int i = 0; i < n; i++) {
        eaten += serveMeal();
      }
      return eaten;
    }

    int booked() {
      return Math.min(meal, BOOK_MEALS);
    }

    int spoonsAgo(int i) {
      return book[Math.floorMod(meal - 1 - i, BOOK_MEALS)];
    }

    int week() {
      int sum = 0;
      for (int i = 0; i < booked(); i++) {
        sum += spoonsAgo(i);
      }
      return sum;
    }

    boolean isShort() {
      return booked() == BOOK_MEALS && week() < SHORT_WEEK;
    }

    void freeSpotsOf(int taste) {
      for (int spot = 0; spot < SPOTS; spot++) {
        if (spots[spot] == taste) {
          spots[spot] = -1;
        }
      }
    }

    int spotsInUse() {
      int used = 0;
      for (int spot = 0; spot < SPOTS; spot++) {
        if (spots[spot] >= 0) {
          used++;
        }
      }
      return used;
    }
  }

  /** The bytes of a text, and the tokens that they are cut into, with the place of the reading one. */
  private static final class Tape {
    private static final int BLANK = 0;
    private static final int WORD = 1;
    private static final int NUMBER = 2;
    private static final int SIGN = 3;
    private static final int OTHER = 4;
    private static final int END = 5;

    final int[] bytes;
    int size;
    private final int[] kinds;
    private final int[] starts;
    private final int[] lengths;
    private final int[] values;
    private int tokens;
    private int at;

    Tape() {
      bytes = new int[TAPE_BYTES];
      size = 0;
      kinds = new int[TAPE_BYTES + 1];
      starts = new int[TAPE_BYTES + 1];
      lengths = new int[TAPE_BYTES + 1];
      values = new int[TAPE_BYTES + 1];
      tokens = 0;
      at = 0;
    }

    void add(int b) {
      if (size < TAPE_BYTES) {
        bytes[size] = b;
        size++;
      }
    }

    /** The last token is an end behind all bytes. */
    void cut() {
      tokens = 0;
      at = 0;
      int last = BLANK;
      for (int i = 0; i < size; i++) {
        int kind = kindOf(bytes[i]);
        boolean goesOn = kind == last && (kind == WORD || kind == NUMBER);
        if (!goesOn && kind != BLANK) {
          begin(kind, i);
        }
        if (kind != BLANK) {
          lengthen(i);
        }
        last = kind;
      }
      begin(END, size);
    }

    private static int kindOf(int b) {
      if (within(b, 'a', 'z')) {
        return WORD;
      }
      if (within(b, '0', '9')) {
        return NUMBER;
      }
      if (b == ';') {
        return SIGN;
      }
      return b == ' ' ? BLANK : OTHER;
    }

    private void begin(int kind, int start) {
      if (tokens <= TAPE_BYTES) {
        kinds[tokens] = kind;
        starts[tokens] = start;
        lengths[tokens] = 0;
        values[tokens] = 0;
        tokens++;
      }
    }

    /** A value above the greatest number stays just above it, however long it is. */
    private void lengthen(int i) {
      int token = tokens - 1;
      if (token >= 0) {
        lengths[token]++;
        if (kinds[token] == NUMBER) {
          values[token] = Math.min(TOP_NUMBER + 1, values[token] * 10 + bytes[i] - '0');
        }
      }
    }

    /** Of the token that is read: its first byte's place. */
    int place() {
      return starts[at];
    }

    boolean isAtEnd() {
      return kinds[at] == END;
    }

    boolean isAtNumber() {
      return kinds[at] == NUMBER;
    }

    boolean isAtWord(String word) {
      if (kinds[at] != WORD || lengths[at] != word.length()) {
        return false;
      }
      for (int i = 0; i < word.length(); i++) {
        if (bytes[starts[at] + i] != word.charAt(i)) {
          return false;
        }
      }
      return true;
    }

    /** Nothing stands behind the end, so the reading stays there. */
    void step() {
      if (kinds[at] != END) {
        at++;
      }
    }

    boolean takesSign() {
      boolean is = kinds[at] == SIGN;
      if (is) {
        step();
      }
      return is;
    }

    /** The number that stands here, which is passed; -1 if none within the bounds does. */
    int takenNumber(int low, int top) {
      if (kinds[at] != NUMBER || !within(values[at], low, top)) {
        return -1;
      }
      int v = values[at];
      step();
      return v;
    }

    int takenNumberBehindWord(int low, int top) {
      step();
      return takenNumber(low, top);
    }
  }

  /** Reads a tape onto a child; where it fails, the tape is left at the fault. */
  private static final class Text {
    /** How many items; -1 with a fault. */
    static int read(Tape tape, Child child) {
      tape.cut();
      for (int items = 1; items <= TAPE_BYTES; items++) {
        if (!readItem(tape, child)) {
          return -1;
        }
        if (!tape.takesSign()) {
          return tape.isAtEnd() ? items : -1;
        }
      }
      return -1;
    }

    private static boolean readItem(Tape tape, Child child) {
      int part = partTold(tape);
      if (part >= 0) {
        return readPart(tape, child, part);
      }
      int kind = kindTold(tape);
      if (kind >= 0) {
        return readTaste(tape, child, kind);
      }
      if (tape.isAtWord("food")) {
        return readFood(tape, child);
      }
      if (tape.isAtWord("pudding")) {
        return readPudding(tape, child);
      }
      return tape.isAtWord("friend") && readFriend(tape, child);
    }

    private static int partTold(Tape tape) {
      if (tape.isAtWord("bent")) {
        return BENT;
      }
      if (tape.isAtWord("hunger")) {
        return HUNGER;
      }
      if (tape.isAtWord("weight")) {
        return WEIGHT;
      }
      return tape.isAtWord("line") ? LINE : -1;
    }

    private static int kindTold(Tape tape) {
      for (int kind = 0; kind < KINDS; kind++) {
        if (tape.isAtWord(kindWord(kind))) {
          return kind;
        }
      }
      return -1;
    }

    private static String kindWord(int kind) {
      switch (kind) {
        case LICKED: return "licked";
        case PRESSED: return "pressed";
        case PAID: return "paid";
        case COPIED: return "copied";
        case GROWN: return "grown";
        case HIDDEN: return "hidden";
        default: return "taste";
      }
    }

    private static boolean readPart(Tape tape, Child child, int part) {
      int v = tape.takenNumberBehindWord(partLow(part), partTop(part));
      if (v < 0) {
        return false;
      }
      child.setPart(part, v);
      return true;
    }

    private static boolean readTaste(Tape tape, Child child, int kind) {
      if (child.plan.isFull()) {
        return false;
      }
      int food = tape.takenNumberBehindWord(0, FOODS - 1);
      if (food < 0) {
        return false;
      }
      int put = 5;
      if (tape.isAtWord("put")) {
        put = tape.takenNumberBehindWord(1, TOP_PUT);
        if (put < 0) {
          return false;
        }
      }
      child.plan.add(kind, food, put);
      return true;
    }

    private static boolean readFood(Tape tape, Child child) {
      int food = tape.takenNumberBehindWord(0, FOODS - 1);
      if (food < 0) {
        return false;
      }
      if (tape.isAtWord("like")) {
        int like = tape.takenNumberBehindWord(0, TOP_LIKE);
        if (like < 0) {
          return false;
        }
        child.like[food] = like;
      }
      if (tape.isAtWord("bitter")) {
        int bitter = tape.takenNumberBehindWord(0, TOP_BITTER);
        if (bitter < 0) {
          return false;
        }
        child.bitter[food] = bitter;
      }
      return true;
    }

    private static boolean readPudding(Tape tape, Child child) {
      int food = tape.takenNumberBehindWord(0, FOODS - 1);
      if (food < 0) {
        return false;
      }
      child.pudding = food;
      return true;
    }

    private static boolean readFriend(Tape tape, Child child) {
      int food = tape.takenNumberBehindWord(0, FOODS - 1);
      int set = 0;
      for (int count = 0; count < FOODS && food >= 0; count++) {
        set |= 1 << food;
        if (!tape.isAtNumber()) {
          child.friend = set;
          return true;
        }
        food = tape.takenNumber(food + 1, FOODS - 1);
      }
      return false;
    }
  }

  /** Numbers of some bits each; of 0 bits: the sheet is missing. */
  private static final class Sheet {
    final int[] numbers;
    int bits;
    int size;

    Sheet() {
      numbers = new int[SHEET_NUMBERS];
      bits = 0;
      size = 0;
    }

    boolean isMissing() {
      return bits == 0;
    }

    void lay(int newBits, int n) {
      bits = newBits;
      size = newBits == 0 ? 0 : n;
      Arrays.fill(numbers, 0);
    }

    boolean has(int from, int n) {
      return from >= 0 && n >= 0 && from <= size - n;
    }

    void put(int i, int v) {
      switch (bits) {
        case 8: numbers[i] = (byte) v; break;
        case 16: numbers[i] = (short) v; break;
        default: numbers[i] = v; break;
      }
    }
  }
}
