import java.util.Random;

/** All promises: long runs of drawn calls (always the same ones), each answer held against Model. */
public final class ModelTest {
  private static final int RUNS = 400;
  private static final int CALLS = 512;
  private static final int[] STRANGE = {-3, -2, -1, 0, 1, 14, 15, 16, 31, 32, 33, 99, 100, 200, 256, 100000,
    Integer.MAX_VALUE, Integer.MIN_VALUE, Integer.MIN_VALUE + 1, 1 << 16, 1 << 30};

  private final Random random;
  private final ChalkedDoors x = new ChalkedDoors();
  private final Model y = new Model();
  private int left = CALLS;

  private ModelTest(int run) {
    random = new Random(run);
  }

  public static void main(String[] args) {
    for (int run = 0; run < RUNS; run++) {
      new ModelTest(run).go(run);
    }
    Due.end();
  }

  private void go(int run) {
    int streets = 1 + random.nextInt(3);
    while (left > 0) {
      int share = CALLS / streets;
      String text = text();
      if (random.nextInt(3) == 0) text = spoilt(text);
      String name = "run " + run + ", \"" + text + "\": ";
      for (int i = 0; i < text.length() && left > 0; i++) {
        is(name + "feed", x.feed(text.charAt(i)), y.feed(text.charAt(i)));
      }
      is(name + "street()", x.street(), y.street());
      is(name + "fault()", x.fault(), y.fault());
      for (int k = text.length(); k < share && left > 0; k++) {
        call(name, random.nextInt(32));
      }
      for (int d = 0; d < x.told(0) && left > 0; d++) {
        is(name + "door(" + d + ", 0)", x.door(d, 0), y.door(d, 0));
        is(name + "door(" + d + ", 1)", x.door(d, 1), y.door(d, 1));
      }
    }
  }

  private void is(String call, int got, int want) {
    left--;
    Due.is(call, got, want);
  }

  private int drawn(int least, int most) {
    return least + random.nextInt(most - least + 1);
  }

  private int some(int least, int most) {
    if (random.nextInt(12) == 0) return STRANGE[random.nextInt(STRANGE.length)];
    return drawn(least, Math.max(least, most));
  }

  private String blanks() {
    return " ".repeat(random.nextInt(8) == 0 ? 1 + random.nextInt(2) : 0);
  }

  private String clause(char word, int... numbers) {
    StringBuilder s = new StringBuilder(blanks() + word);
    for (int i = 0; i < numbers.length; i++) {
      s.append(i > 0 ? " " : "").append(blanks()).append(numbers[i]);
    }
    return s.append(blanks()).append(';').toString();
  }

  private String text() {
    int n = random.nextInt(3) == 0 ? drawn(1, 3) : drawn(1, 14);
    StringBuilder s = new StringBuilder(clause('s', n));
    int chalks = random.nextInt(6) == 0 ? drawn(0, 4) : drawn(2, 4);
    int like = random.nextInt(3);
    for (int c = 0; c < chalks; c++) {
      int cost = like == 0 ? drawn(0, 20) : drawn(0, 3);
      s.append(clause('c', drawn(0, 2), drawn(0, 8), cost, random.nextBoolean() ? 0 : drawn(0, 7)));
    }
    if (random.nextInt(4) != 0) s.append(clause('w', drawn(1, 9), random.nextBoolean() ? drawn(0, 3) : drawn(0, 13)));
    if (random.nextInt(4) != 0) s.append(clause('r', drawn(0, 8)));
    boolean few = random.nextBoolean();
    for (int d = 0; d < n; d++) {
      if (random.nextInt(4) != 0) {
        s.append(clause('m', d, random.nextInt(few ? Math.min(2, 1 << chalks) : 1 << chalks)));
      }
    }
    return s.length() > 200 ? s.substring(0, s.lastIndexOf(";", 199) + 1) : s.toString();
  }

  /** A letter or more is dropped, doubled or put in. */
  private String spoilt(String text) {
    StringBuilder s = new StringBuilder(text);
    for (int k = random.nextInt(3); k >= 0; k--) {
      int at = random.nextInt(s.length());
      switch (random.nextInt(4)) {
        case 0: s.deleteCharAt(at); break;
        case 1: s.insert(at, s.charAt(at)); break;
        case 2: s.setCharAt(at, "scmrw; 0123456789x".charAt(random.nextInt(18))); break;
        default: s.insert(at, s.substring(at, Math.min(s.length(), s.indexOf(";", at) + 1 + at))); break;
      }
      if (s.length() == 0) s.append(' ');
    }
    return s.length() > 200 ? s.substring(0, 200) : s.toString();
  }

  private void call(String name, int which) {
    int n = x.told(0);
    int c = x.told(1);
    int d = some(0, n - 1);
    int k = some(0, c - 1);
    int set = some(0, (1 << c) - 1);
    boolean b = random.nextBoolean();
    switch (which) {
      case 0: { int v = some(0, 11); is(name + "told(" + v + ")", x.told(v), y.told(v)); break; }
      case 1: { int v = some(0, 4); is(name + "chalk(" + k + ", " + v + ")", x.chalk(k, v), y.chalk(k, v)); break; }
      case 2: { int v = some(0, 1); is(name + "door(" + d + ", " + v + ")", x.door(d, v), y.door(d, v)); break; }
      case 3: is(name + "mark(" + d + ", " + k + ")", x.mark(d, k), y.mark(d, k)); break;
      case 4: is(name + "wipe(" + d + ", " + k + ")", x.wipe(d, k), y.wipe(d, k)); break;
      case 5: is(name + "hide(" + d + ", " + k + ", " + b + ")", x.hide(d, k, b), y.hide(d, k, b)); break;
      case 6: { int f = some(1, b ? 2 : 13); if (random.nextInt(3) == 0) is(name + "copy(" + d + ", " + f + ")", x.copy(d, f), y.copy(d, f)); break; }
      case 7: { int v = some(1, b ? 3 : 99); is(name + "night(" + v + ")", x.night(v), y.night(v)); break; }
      case 8: is(name + "like(" + set + ")", x.like(set), y.like(set)); break;
      case 9:
      case 10: { int f = some(2, Math.max(3, n)); int v = some(0, 1); is(name + "fool(" + set + ", " + f + ", " + v + ")", x.fool(set, f, v), y.fool(set, f, v)); break; }
      case 11: { int e = some(0, 2); int v = some(-1, n - 1); is(name + "code(" + e + ", " + v + ")", x.code(e, v), y.code(e, v)); break; }
      case 12: { int v = some(1, n); is(name + "windows(" + v + ")", x.windows(v), y.windows(v)); break; }
      case 13: is(name + "leastWindow()", x.leastWindow(), y.leastWindow()); break;
      case 14:
      case 15: { int v = some(1, 9); is(name + "belief(" + set + ", " + v + ", " + d + ")", x.belief(set, v, d), y.belief(set, v, d)); break; }
      case 16: { int v = some(1, 9); is(name + "bestDoor(" + set + ", " + v + ")", x.bestDoor(set, v), y.bestDoor(set, v)); break; }
      case 17: { int v = some(0, b ? 300 : 99999); is(name + "watchman(" + v + ")", x.watchman(v), y.watchman(v)); break; }
      case 18: is(name + "unseen(" + d + ")", x.unseen(d), y.unseen(d)); break;
      case 19: { int v = some(1, 99); is(name + "sight(" + v + ")", x.sight(v), y.sight(v)); break; }
      case 20: { int v = some(0, 15); int w = some(0, 15); is(name + "forged(" + v + ", " + w + ")", x.forged(v, w), y.forged(v, w)); break; }
      case 21: { int v = some(0, (1 << n) - 1) & (b ? 1 << drawn(0, 13) | 1 << drawn(0, 13) : -1); int w = some(0, 1); is(name + "keys(" + v + ", " + w + ")", x.keys(v, w), y.keys(v, w)); break; }
      case 22: { int v = some(0, 30); boolean is = random.nextBoolean(); is(name + "note(" + d + ", " + v + ", " + is + ")", x.note(d, v, is), y.note(d, v, is)); break; }
      case 23:
      case 24: { int v = some(-2, b ? 3 : 31 * n); is(name + "first(" + v + ")", x.first(v), y.first(v)); break; }
      case 25: { int v = b && n > 0 && d >= 0 && d < n ? x.door(d, 0) : some(0, 15); is(name + "write(" + d + ", " + v + ")", x.write(d, v), y.write(d, v)); break; }
      case 26: if (random.nextInt(4) == 0) is(name + "tear()", x.tear(), y.tear()); break;
      case 27: is(name + "judge()", x.judge(), y.judge()); break;
      case 28: { int v = b ? random.nextInt() : some(0, 99); is(name + "seed(" + v + ")", x.seed(v), y.seed(v)); break; }
      case 29: { int v = some(0, 1); is(name + "keep(" + v + ")", x.keep(v), y.keep(v)); break; }
      case 30: { int v = some(0, 1); is(name + "goBack(" + v + ")", x.goBack(v), y.goBack(v)); break; }
      default: is(name + "fault()", x.fault(), y.fault()); break;
    }
  }
}
