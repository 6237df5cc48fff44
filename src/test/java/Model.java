import java.util.ArrayList;
import java.util.Arrays;
import java.util.HashMap;
import java.util.List;
import java.util.Map;
import java.util.regex.Matcher;
import java.util.regex.Pattern;

/** The document once more, told with the Java library and another way of holding the state. */
final class Model {
  static final int BEYOND = -1000001;
  static final int FULL = -1000002;
  static final int KIND = -1000003;
  static final int NONE = -1000004;
  static final int STATE = -1000005;
  static final int MISSING = -1000006;
  static final int SIZE = -1000007;

  static final List<String> KIND_WORDS =
      List.of("taste", "licked", "pressed", "paid", "copied", "grown", "hidden");
  static final List<String> PART_WORDS = List.of("bent", "hunger", "weight", "line");
  static final int[] PART_LOW = {0, 0, 0, 1};
  static final int[] PART_TOP = {9, 99, 9999, 99};

  record Taste(int kind, int food, int put) {}

  static final class World {
    int[] like = new int[10];
    int[] bitter = new int[10];
    int[] tried = new int[10];
    int[] parts = {3, 40, 1500, 50};
    int pudding = -1;
    int friend;
    List<Taste> plan = new ArrayList<>();
    List<Integer> eaten = new ArrayList<>();
    Map<Integer, Integer> spots = new HashMap<>();
    int z = 1;

    World() {
      Arrays.fill(like, 20);
    }

    World twin() {
      World w = new World();
      w.like = like.clone();
      w.bitter = bitter.clone();
      w.tried = tried.clone();
      w.parts = parts.clone();
      w.pudding = pudding;
      w.friend = friend;
      w.plan = new ArrayList<>(plan);
      w.eaten = new ArrayList<>(eaten);
      w.spots = new HashMap<>(spots);
      w.z = z;
      return w;
    }

    boolean liked(int f) {
      return like[f] >= parts[3];
    }

    int likedSet() {
      int set = 0;
      for (int f = 0; f < 10; f++) {
        set += liked(f) ? 1 << f : 0;
      }
      return set;
    }

    int eats(Taste t, boolean found) {
      return eats(t, t.kind, found);
    }

    /** A kind's answer by that of the kind above it. */
    int eats(Taste t, int kind, boolean found) {
      int e;
      switch (kind) {
        case 0: e = t.put * like[t.food] * (parts[1] + 20) / 10000; break;
        case 1: e = 0; break;
        case 2: e = eats(t, 0, found) + 2; break;
        case 3: e = eats(t, 2, found) + 3; break;
        case 4: e = eats(t, 0, found); e += (friend >> t.food) % 2 == 1 ? e / 2 : 0; break;
        case 5: e = eats(t, 4, found); break;
        default: e = found ? 0 : t.put; break;
      }
      return e > t.put ? t.put : e;
    }

    int moves(Taste t, int kind, boolean found) {
      switch (kind) {
        case 0: return 6 - (bitter[t.food] * parts[0]) / 10;
        case 1: return moves(t, 0, found) / 2;
        case 2: return moves(t, 0, found) - 8;
        case 3: return moves(t, 2, found) + 2;
        case 4: return moves(t, 0, found) + ((friend >> t.food) % 2 == 1 ? 3 : 0);
        case 5: return moves(t, 4, found) + 2;
        default: return found ? -10 : 1;
      }
    }

    void move(int f, int by) {
      like[f] += by;
      if (like[f] < 0) {
        like[f] = 0;
      }
      if (like[f] > 99) {
        like[f] = 99;
      }
    }

    int meal() {
      return eaten.size();
    }

    int meals(int n) {
      int sum = 0;
      for (int i = 0; i < n; i++) {
        sum += serve();
      }
      return sum;
    }

    int serve() {
      int spoons = 0;
      if (!plan.isEmpty()) {
        Taste t = plan.get(meal() % plan.size());
        boolean found = false;
        if (t.kind == 6) {
          z = z * 1103515245 + 12345;
          found = (z >>> 8) % 10 <= bitter[t.food];
        }
        spoons = eats(t, found);
        move(t.food, moves(t, t.kind, found));
        if (t.kind == 3 && pudding >= 0) {
          move(pudding, 5);
        }
        if (tried[t.food] < 999) {
          tried[t.food]++;
        }
      }
      parts[1] -= 3 * spoons;
      if (parts[1] < 0) {
        parts[1] = 0;
      }
      parts[1] += 12;
      if (parts[1] > 99) {
        parts[1] = 99;
      }
      parts[2] += spoons - 4;
      if (parts[2] < 0) {
        parts[2] = 0;
      }
      if (parts[2] > 9999) {
        parts[2] = 9999;
      }
      eaten.add(spoons);
      return spoons;
    }

    List<Integer> book() {
      return eaten.subList(Math.max(0, meal() - 35), meal());
    }

    int week() {
      int sum = 0;
      for (int e : book()) {
        sum += e;
      }
      return sum;
    }

    boolean isShort() {
      return meal() >= 35 && week() < 100;
    }
  }

  World w = new World();
  World kept;
  List<Integer> tape = new ArrayList<>();
  int[] bits = new int[4];
  int[][] sheets = new int[4][];
  Map<Integer, Integer> found = new HashMap<>();

  int f(int finding) {
    found.merge(finding, 1, Integer::sum);
    return finding;
  }

  static boolean in(int v, int low, int top) {
    return low <= v && v <= top;
  }

  boolean isTaste(int t) {
    return in(t, 0, w.plan.size() - 1);
  }

  boolean late(int n) {
    return w.meal() + n > 99999;
  }

  int call(String name, int[] a) {
    switch (name) {
      case "food": {
        if (!in(a[0], 0, 9) || !in(a[1], 0, 1) || !in(a[2], 0, a[1] == 0 ? 99 : 9)) {
          return f(BEYOND);
        }
        int[] row = a[1] == 0 ? w.like : w.bitter;
        int was = row[a[0]];
        row[a[0]] = a[2];
        return was;
      }
      case "foodOf": {
        if (!in(a[0], 0, 9) || !in(a[1], 0, 3)) {
          return f(BEYOND);
        }
        return new int[] {w.like[a[0]], w.bitter[a[0]], w.tried[a[0]], w.liked(a[0]) ? 1 : 0}[a[1]];
      }
      case "child": {
        if (!in(a[0], 0, 3) || !in(a[1], PART_LOW[a[0]], PART_TOP[a[0]])) {
          return f(BEYOND);
        }
        int was = w.parts[a[0]];
        w.parts[a[0]] = a[1];
        return was;
      }
      case "pudding": {
        if (!in(a[0], -1, 9)) {
          return f(BEYOND);
        }
        int was = w.pudding;
        w.pudding = a[0];
        return was;
      }
      case "friend": {
        if (!in(a[0], 0, 1023)) {
          return f(BEYOND);
        }
        int was = w.friend;
        w.friend = a[0];
        return was;
      }
      case "liked": return w.likedSet();
      case "next": {
        for (int like = w.parts[3] - 1; like >= 0; like--) {
          for (int food = 0; food < 10; food++) {
            if (w.like[food] == like) {
              return food;
            }
          }
        }
        return f(NONE);
      }
      case "taste": {
        if (!in(a[0], 0, 6) || !in(a[1], 0, 9) || !in(a[2], 1, 20)) {
          return f(BEYOND);
        }
        if (w.plan.size() == 10) {
          return f(FULL);
        }
        w.plan.add(new Taste(a[0], a[1], a[2]));
        return w.plan.size() - 1;
      }
      case "tasteOf": {
        if (!isTaste(a[0]) || !in(a[1], 0, 4)) {
          return f(BEYOND);
        }
        Taste t = w.plan.get(a[0]);
        return new int[] {t.kind, t.food, t.put, w.eats(t, false), w.moves(t, t.kind, false)}[a[1]];
      }
      case "change": {
        if (!isTaste(a[0]) || !in(a[1], 0, 2)) {
          return f(BEYOND);
        }
        int[][] bounds = {{0, 6}, {0, 9}, {1, 20}};
        if (!in(a[2], bounds[a[1]][0], bounds[a[1]][1])) {
          return f(BEYOND);
        }
        Taste t = w.plan.get(a[0]);
        int[] v = {t.kind, t.food, t.put};
        int was = v[a[1]];
        v[a[1]] = a[2];
        w.plan.set(a[0], new Taste(v[0], v[1], v[2]));
        return was;
      }
      case "swap": {
        if (!isTaste(a[0]) || !isTaste(a[1])) {
          return f(BEYOND);
        }
        java.util.Collections.swap(w.plan, a[0], a[1]);
        return 1;
      }
      case "drop": {
        if (w.plan.isEmpty()) {
          return f(NONE);
        }
        int last = w.plan.size() - 1;
        w.plan.remove(last);
        w.spots.values().removeIf(t -> t == last);
        return last;
      }
      default: return callMeals(name, a);
    }
  }

  int callMeals(String name, int[] a) {
    switch (name) {
      case "meals":
        return !in(a[0], 1, 70) ? f(BEYOND) : late(a[0]) ? f(STATE) : w.meals(a[0]);
      case "now": {
        if (!in(a[0], 0, 10)) {
          return f(BEYOND);
        }
        return new int[] {w.meal(), w.meal() / 5, w.parts[0], w.parts[1], w.parts[2], w.parts[3],
            w.pudding, w.friend, w.week(), w.book().size(), w.isShort() ? 1 : 0}[a[0]];
      }
      case "book": {
        int size = w.book().size();
        return !in(a[0], 0, size - 1) ? f(BEYOND) : w.book().get(size - 1 - a[0]);
      }
      case "day": {
        if (!in(a[0], 0, 7)) {
          return f(BEYOND);
        }
        if (w.eaten.isEmpty()) {
          return f(NONE);
        }
        int last = w.meal() - 1;
        int sum = 0;
        for (int m = Math.max(0, last - 34); m <= last; m++) {
          sum += last / 5 - m / 5 == a[0] ? w.eaten.get(m) : 0;
        }
        return sum;
      }
      case "spread": {
        if (w.eaten.isEmpty()) {
          return f(NONE);
        }
        int far = 0;
        for (int one : w.book()) {
          for (int other : w.book()) {
            far = Math.max(far, one - other);
          }
        }
        return far;
      }
      default: return callAhead(name, a);
    }
  }

  int callAhead(String name, int[] a) {
    switch (name) {
      case "ahead": {
        if (!in(a[0], 0, 350) || !in(a[1], 0, 13)) {
          return f(BEYOND);
        }
        if (late(a[0])) {
          return f(STATE);
        }
        World x = w.twin();
        int eaten = x.meals(a[0]);
        return a[1] > 3 ? x.like[a[1] - 4]
            : new int[] {eaten, x.likedSet(), x.parts[2], x.parts[1]}[a[1]];
      }
      case "when": {
        if (!in(a[0], 0, 9)) {
          return f(BEYOND);
        }
        return late(350) ? f(STATE) : until(w.twin(), a[0], 350);
      }
      case "times": {
        if (!isTaste(a[0])) {
          return f(BEYOND);
        }
        if (late(99)) {
          return f(STATE);
        }
        World x = w.twin();
        x.plan = List.of(w.plan.get(a[0]));
        return until(x, w.plan.get(a[0]).food, 99);
      }
      case "kindFor":
      case "foodFor":
      case "putFor": {
        if (!isTaste(a[0]) || !in(a[1], 1, 175)) {
          return f(BEYOND);
        }
        return late(a[1]) ? f(STATE) : bestFor(name, a[0], a[1]);
      }
      case "paid": {
        if (!in(a[0], 0, 175)) {
          return f(BEYOND);
        }
        if (late(a[0])) {
          return f(STATE);
        }
        if (w.pudding < 0) {
          return f(NONE);
        }
        World x = w.twin();
        World y = w.twin();
        y.plan.replaceAll(t -> t.kind == 3 ? new Taste(2, t.food, t.put) : t);
        x.meals(a[0]);
        y.meals(a[0]);
        return x.like[w.pudding] - y.like[w.pudding];
      }
      case "worry": {
        if (late(175)) {
          return f(STATE);
        }
        World x = w.twin();
        for (int n = 1; n <= 175; n++) {
          x.serve();
          if (x.isShort()) {
            return n;
          }
        }
        return f(NONE);
      }
      case "order": {
        if (!in(a[0], 1, 70)) {
          return f(BEYOND);
        }
        return late(a[0]) ? f(STATE) : bestOrder(a[0]);
      }
      case "chance": {
        if (!in(a[0], 0, 9) || !in(a[1], 1, 20) || !in(a[2], 0, 70)) {
          return f(BEYOND);
        }
        if (late(a[2])) {
          return f(STATE);
        }
        int often = 0;
        for (int i = 0; i < a[1]; i++) {
          World x = w.twin();
          x.meals(a[2]);
          w.z = x.z;
          often += x.liked(a[0]) ? 1 : 0;
        }
        return often;
      }
      case "seed": {
        int was = w.z;
        w.z = a[0];
        return was;
      }
      default: return callRest(name, a);
    }
  }

  int until(World x, int food, int most) {
    for (int n = 0; n <= most; n++) {
      if (x.liked(food)) {
        return n;
      }
      x.serve();
    }
    return f(NONE);
  }

  int bestFor(String name, int taste, int n) {
    int best = -1;
    int most = -1;
    for (int v = name.equals("putFor") ? 1 : 0; v <= 20; v++) {
      if ((name.equals("kindFor") && v > 6) || (name.equals("foodFor") && v > 9)) {
        break;
      }
      World x = w.twin();
      Taste t = x.plan.get(taste);
      x.plan.set(taste, name.equals("putFor") ? new Taste(t.kind, t.food, v)
          : name.equals("kindFor") ? new Taste(v, t.food, t.put) : new Taste(t.kind, v, t.put));
      int eaten = x.meals(n);
      int score = name.equals("putFor") ? eaten : Integer.bitCount(x.likedSet());
      if (score > most) {
        most = score;
        best = v;
      }
    }
    return best;
  }

  int bestOrder(int n) {
    World asItIs = w.twin();
    asItIs.meals(n);
    int most = Integer.bitCount(asItIs.likedSet());
    int best = f(NONE);
    for (int two = 1; two < 90; two++) {
      int one = two / 10;
      int other = two % 10;
      if (one >= other || !isTaste(other)) {
        continue;
      }
      World x = w.twin();
      java.util.Collections.swap(x.plan, one, other);
      x.meals(n);
      if (Integer.bitCount(x.likedSet()) > most) {
        most = Integer.bitCount(x.likedSet());
        if (best == NONE) {
          found.merge(NONE, -1, Integer::sum);
        }
        best = two;
      }
    }
    return best;
  }

  int callRest(String name, int[] a) {
    switch (name) {
      case "feed": {
        if (!in(a[1], 1, 4)) {
          return f(BEYOND);
        }
        if (tape.size() + a[1] > 120) {
          return f(FULL);
        }
        for (int shift = 8 * a[1] - 8; shift >= 0; shift -= 8) {
          tape.add((a[0] >> shift) & 0xff);
        }
        return tape.size();
      }
      case "wipe": {
        int had = tape.size();
        tape.clear();
        return had;
      }
      case "text": return text();
      case "hold": {
        if (!in(a[0], 0, 9) || !in(a[1], -1, w.plan.size() - 1)) {
          return f(BEYOND);
        }
        w.spots.remove(a[0]);
        if (a[1] >= 0) {
          w.spots.put(a[0], a[1]);
        }
        return 1;
      }
      case "as": {
        if (!in(a[0], 0, 9) || !in(a[1], 0, 6)) {
          return f(BEYOND);
        }
        if (!w.spots.containsKey(a[0])) {
          return f(MISSING);
        }
        int kind = w.plan.get(w.spots.get(a[0])).kind;
        boolean fits = a[1] == 0 || kind == a[1] || (a[1] == 2 && kind == 3) || (a[1] == 4 && kind == 5);
        return fits ? w.spots.get(a[0]) : f(KIND);
      }
      case "image": {
        kept = w.twin();
        return 1;
      }
      case "undo": {
        if (kept == null) {
          return f(NONE);
        }
        w = kept.twin();
        return w.meal();
      }
      case "tear": {
        int was = kept == null ? 0 : 1;
        kept = null;
        return was;
      }
      case "count": {
        if (!in(a[0], 0, 5)) {
          return f(BEYOND);
        }
        return new int[] {w.plan.size(), Integer.bitCount(w.likedSet()), Arrays.stream(w.tried).sum(),
            tape.size(), w.z, w.spots.size()}[a[0]];
      }
      case "status": {
        if (!in(a[0], -1, 6)) {
          return f(BEYOND);
        }
        return a[0] < 0 ? found.values().stream().mapToInt(Integer::intValue).sum()
            : found.getOrDefault(BEYOND - a[0], 0);
      }
      default: return callSheets(name, a);
    }
  }

  int callSheets(String name, int[] a) {
    if (!in(a[0], 0, 3) || (name.equals("copy") && !in(a[2], 0, 3))) {
      return f(BEYOND);
    }
    int[] row = sheets[a[0]];
    if (name.equals("sheet")) {
      if (a[1] != 0 && a[1] != 8 && a[1] != 16 && a[1] != 32) {
        return f(BEYOND);
      }
      if (a[2] < 0) {
        return f(SIZE);
      }
      if (a[2] > 40) {
        return f(BEYOND);
      }
      bits[a[0]] = a[1];
      sheets[a[0]] = a[1] == 0 ? null : new int[a[2]];
      return a[1] == 0 ? 0 : a[2];
    }
    if (row == null || (name.equals("copy") && sheets[a[2]] == null)) {
      return f(MISSING);
    }
    switch (name) {
      case "write": {
        if (!in(a[1], 0, row.length - 1)) {
          return f(BEYOND);
        }
        int shift = 32 - bits[a[0]];
        row[a[1]] = (a[2] << shift) >> shift;
        return 1;
      }
      case "copy": {
        if (bits[a[0]] != bits[a[2]]) {
          return f(KIND);
        }
        long n = a[4];
        if (a[1] < 0 || a[3] < 0 || n < 0 || a[1] + n > row.length || a[3] + n > sheets[a[2]].length) {
          return f(BEYOND);
        }
        int[] were = row.clone();
        for (int i = 0; i < n; i++) {
          sheets[a[2]][a[3] + i] = were[a[1] + i];
        }
        return a[4];
      }
      case "load": {
        for (int i = 0; ; i++) {
          if (i == 10 || i == row.length || !in(row[i], 0, 99)) {
            return i;
          }
          w.like[i] = row[i];
        }
      }
      case "judge": {
        if (late(row.length)) {
          return f(STATE);
        }
        World x = w.twin();
        for (int i = 0; i < row.length; i++) {
          if (x.serve() != row[i]) {
            return i + 1;
          }
        }
        return 0;
      }
      default: throw new IllegalStateException(name);
    }
  }

  record Token(String text, int at) {
    int number() {
      String digits = text.replaceFirst("^0+(?=.)", "");
      return !digits.matches("[0-9]{1,4}") ? -1 : Integer.parseInt(digits);
    }
  }

  private List<Token> tokens;
  private int place;

  private String peek() {
    return tokens.get(place).text;
  }

  private boolean takes(String word) {
    boolean is = peek().equals(word);
    place += is ? 1 : 0;
    return is;
  }

  private int number(int low, int top) {
    int v = tokens.get(place).number();
    if (!in(v, low, top)) {
      throw new Fault();
    }
    place++;
    return v;
  }

  private static final class Fault extends RuntimeException {
    private static final long serialVersionUID = 1;
  }

  int text() {
    StringBuilder all = new StringBuilder();
    for (int b : tape) {
      all.append((char) b);
    }
    tape.clear();
    tokens = new ArrayList<>();
    Matcher m = Pattern.compile("[a-z]+|[0-9]+|[^ ]").matcher(all);
    while (m.find()) {
      tokens.add(new Token(m.group(), m.start()));
    }
    tokens.add(new Token("", all.length()));
    place = 0;
    World x = w.twin();
    try {
      int items = 0;
      do {
        item(x);
        items++;
      } while (takes(";"));
      if (!peek().isEmpty()) {
        throw new Fault();
      }
      w = x;
      return items;
    } catch (Fault fault) {
      return -1 - tokens.get(place).at;
    }
  }

  private void item(World x) {
    int part = PART_WORDS.indexOf(peek());
    int kind = KIND_WORDS.indexOf(peek());
    if (part >= 0) {
      place++;
      x.parts[part] = number(PART_LOW[part], PART_TOP[part]);
    } else if (kind >= 0 && x.plan.size() < 10) {
      place++;
      int food = number(0, 9);
      x.plan.add(new Taste(kind, food, takes("put") ? number(1, 20) : 5));
    } else if (takes("food")) {
      int food = number(0, 9);
      if (takes("like")) {
        x.like[food] = number(0, 99);
      }
      if (takes("bitter")) {
        x.bitter[food] = number(0, 9);
      }
    } else if (takes("pudding")) {
      x.pudding = number(0, 9);
    } else if (takes("friend")) {
      int last = number(0, 9);
      int set = 1 << last;
      while (peek().matches("[0-9]+")) {
        last = number(last + 1, 9);
        set |= 1 << last;
      }
      x.friend = set;
    } else {
      throw new Fault();
    }
  }
}
