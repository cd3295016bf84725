import java.util.ArrayList;
import java.util.Arrays;
import java.util.HashMap;
import java.util.List;
import java.util.Map;
import java.util.TreeMap;
import java.util.TreeSet;

/** The document told once more, as plainly and as unlike the class as can be: what the class answers is held against it. */
final class Model {
  static final int NONE = -1, UNKNOWN = -1000000001, OUTSIDE = -1000000002, NOT = -1000000003, FULL = -1000000004;

  /** What is so, with copies for images. */
  private static final class State {
    List<TreeSet<Integer>> marks = new ArrayList<>();
    List<TreeSet<Integer>> hidden = new ArrayList<>();
    int nights;
    int spent;
    long seed;

    State copy() {
      State s = new State();
      for (TreeSet<Integer> m : marks) {
        s.marks.add(new TreeSet<>(m));
      }
      for (TreeSet<Integer> h : hidden) {
        s.hidden.add(new TreeSet<>(h));
      }
      s.nights = nights;
      s.spent = spent;
      s.seed = seed;
      return s;
    }
  }

  private String text = "";
  private int faultAt = NONE;
  private int n = 0;
  private List<int[]> chalks = new ArrayList<>();
  private int v = 4;
  private int l = 0;
  private int r = 0;
  private State now = new State();
  private final State[] images = new State[2];
  private final List<int[]> noted = new ArrayList<>();
  private final List<int[]> book = new ArrayList<>();

  int feed(int letter) {
    if (letter < 0 || letter > 255) return OUTSIDE;
    if (text.length() == 200) return FULL;
    text += (char) letter;
    return text.length();
  }

  // ---- the text: first cut into pieces (words, numbers, other letters), then held against the clauses

  private static final Map<Character, Integer> PARTS = Map.of('s', 1, 'c', 4, 'm', 2, 'r', 1, 'w', 2);

  int street() {
    String t = text;
    text = "";
    List<String> pieces = new ArrayList<>();
    List<Integer> places = new ArrayList<>();
    java.util.regex.Matcher m = java.util.regex.Pattern.compile("[0-9]+|[^ ]", java.util.regex.Pattern.DOTALL).matcher(t);
    while (m.find()) {
      pieces.add(m.group());
      places.add(m.start());
    }
    pieces.add("END");
    places.add(t.length());
    int doors = 0;
    List<int[]> newChalks = new ArrayList<>();
    Map<Integer, Integer> newMarks = new TreeMap<>();
    Map<Character, int[]> single = new HashMap<>();
    int i = 0;
    while (!pieces.get(i).equals("END")) {
      String word = pieces.get(i);
      char w = word.charAt(0);
      if (word.length() > 1 || !PARTS.containsKey(w) || i == 0 && w != 's') return faulty(1, places.get(i));
      if (single.containsKey(w) || w == 'c' && newChalks.size() == 4) return faulty(3, places.get(i));
      int[] numbers = new int[PARTS.get(w)];
      for (int k = 0; k < numbers.length; k++) {
        i++;
        String number = pieces.get(i);
        if (!number.matches("[0-9]+")) return faulty(1, places.get(i));
        if (number.length() > 3) return faulty(2, places.get(i));
        numbers[k] = Integer.parseInt(number);
        int[] bounds = bounds(w, k, doors, newChalks.size());
        if (numbers[k] < bounds[0] || numbers[k] > bounds[1]) return faulty(2, places.get(i));
        if (w == 'm' && k == 0 && newMarks.containsKey(numbers[0])) return faulty(4, places.get(i));
      }
      i++;
      if (!pieces.get(i).equals(";")) return faulty(1, places.get(i));
      i++;
      if (w == 's') doors = numbers[0];
      if (w == 'c') newChalks.add(numbers);
      if (w == 'm') newMarks.put(numbers[0], numbers[1]);
      if (w == 's' || w == 'r' || w == 'w') single.put(w, numbers);
    }
    faultAt = NONE;
    n = doors;
    chalks = newChalks;
    v = single.containsKey('r') ? single.get('r')[0] : 4;
    l = single.containsKey('w') ? single.get('w')[0] : 0;
    r = single.containsKey('w') ? single.get('w')[1] : 0;
    long seed = now.seed;
    now = new State();
    now.seed = seed;
    for (int d = 0; d < n; d++) {
      now.marks.add(elements(newMarks.getOrDefault(d, 0)));
      now.hidden.add(new TreeSet<>());
    }
    noted.clear();
    book.clear();
    Arrays.fill(images, null);
    return n;
  }

  private static int[] bounds(char w, int k, int doors, int chalkCount) {
    switch (w) {
      case 's': return new int[] {1, 14};
      case 'c': return new int[] {0, new int[] {2, 8, 20, 7}[k]};
      case 'm': return new int[] {0, k == 0 ? doors - 1 : (1 << chalkCount) - 1};
      case 'r': return new int[] {0, 8};
      default: return k == 0 ? new int[] {1, 9} : new int[] {0, 13};
    }
  }

  private int faulty(int number, int at) {
    faultAt = at;
    return -10 - number;
  }

  int fault() {
    return faultAt;
  }

  private static TreeSet<Integer> elements(int set) {
    TreeSet<Integer> found = new TreeSet<>();
    for (int k = 0; k < 31; k++) {
      if ((set & 1 << k) != 0) found.add(k);
    }
    return found;
  }

  private static int number(TreeSet<Integer> elements) {
    int set = 0;
    for (int k : elements) set += 1 << k;
    return set;
  }

  private boolean isDoor(int d) {
    return 0 <= d && d < n;
  }

  private boolean isChalk(int c) {
    return 0 <= c && c < chalks.size();
  }

  private boolean strange(int set, int most) {
    for (int k = 0; k < 32; k++) {
      if ((set >>> k & 1) == 1 && k >= most) return true;
    }
    return false;
  }

  private int washedBy(int c) {
    int[] x = chalks.get(c);
    return x[0] == 0 ? x[1] : x[0] == 1 ? x[1] / 2 : 0;
  }

  int told(int what) {
    int marks = 0;
    int hidden = 0;
    for (int d = 0; d < n; d++) {
      marks += now.marks.get(d).size();
      hidden += now.hidden.get(d).size();
    }
    int[] all = {n, chalks.size(), v, l, r, text.length(), now.nights, Math.min(999999, now.spent), marks, hidden, noted.size(), book.size()};
    return what < 0 || what >= all.length ? OUTSIDE : all[what];
  }

  int chalk(int c, int what) {
    if (!isChalk(c)) return UNKNOWN;
    if (what < 0 || what > 4) return OUTSIDE;
    return what == 4 ? washedBy(c) : chalks.get(c)[what];
  }

  int door(int d, int what) {
    if (!isDoor(d)) return UNKNOWN;
    if (what != 0 && what != 1) return OUTSIDE;
    return number((what == 0 ? now.marks : now.hidden).get(d));
  }

  int mark(int d, int c) {
    if (!isDoor(d) || !isChalk(c)) return UNKNOWN;
    if (!now.marks.get(d).add(c)) return NOT;
    now.spent += chalks.get(c)[2];
    return now.spent;
  }

  int wipe(int d, int c) {
    if (!isDoor(d) || !isChalk(c)) return UNKNOWN;
    if (!now.marks.get(d).remove(c)) return NOT;
    return number(now.marks.get(d));
  }

  int hide(int d, int c, boolean is) {
    if (!isDoor(d) || !isChalk(c)) return UNKNOWN;
    if (!is) return now.hidden.get(d).remove(c) ? 1 : 0;
    if (!now.hidden.get(d).add(c)) return 1;
    now.spent += chalks.get(c)[2];
    return 0;
  }

  int copy(int d, int f) {
    if (!isDoor(d)) return UNKNOWN;
    if (f < 1 || f > 13) return OUTSIDE;
    TreeSet<Integer> pattern = new TreeSet<>(now.marks.get(d));
    for (int x = Math.max(0, d - f); x <= Math.min(n - 1, d + f); x++) {
      for (int c : pattern) {
        if (!now.marks.get(x).contains(c)) now.spent += chalks.get(c)[2];
      }
      now.marks.set(x, new TreeSet<>(pattern));
    }
    return now.spent;
  }

  private int draw(int of) {
    now.seed = (now.seed * 1103515245L + 12345L) % (1L << 31);
    return (int) (now.seed / 65536 % of);
  }

  int night(int nights) {
    if (nights < 1 || nights > 99) return OUTSIDE;
    if (n == 0) return NOT;
    if (now.nights > 90000) return FULL;
    for (int k = 0; k < nights; k++) {
      if (draw(8) < v) {
        for (TreeSet<Integer> m : now.marks) {
          for (int c : new ArrayList<>(m)) {
            if (draw(8) < washedBy(c)) m.remove(c);
          }
        }
      }
      for (TreeSet<Integer> m : now.marks) {
        for (int c = 0; c < chalks.size(); c++) {
          if (chalks.get(c)[3] > 0 && draw(64) < chalks.get(c)[3]) m.add(c);
        }
      }
      now.nights++;
    }
    return now.nights;
  }

  int like(int set) {
    if (strange(set, chalks.size())) return UNKNOWN;
    int found = 0;
    for (int d = 0; d < n; d++) {
      if (now.marks.get(d).equals(elements(set))) found += 1 << d;
    }
    return found;
  }

  int fool(int set, int k, int what) {
    if (strange(set, chalks.size())) return UNKNOWN;
    if (k < 2 || k > 14 || what < 0 || what > 1) return OUTSIDE;
    if (n < k) return NONE;
    List<int[]> order = new ArrayList<>();
    for (int d = 0; d < n; d++) {
      int need = 0;
      for (int c = 0; c < chalks.size(); c++) {
        if (elements(set).contains(c) != now.marks.get(d).contains(c)) need++;
      }
      order.add(new int[] {need, d});
    }
    order.sort((a, b) -> a[0] != b[0] ? a[0] - b[0] : a[1] - b[1]);
    int sum = 0;
    int doors = 0;
    for (int i = 0; i < n; i++) {
      if (i < k || order.get(i)[0] == 0) {
        sum += order.get(i)[0];
        doors += 1 << order.get(i)[1];
      }
    }
    return what == 0 ? sum : doors;
  }

  private int costOf(int set) {
    int cost = 0;
    for (int c : elements(set)) cost += chalks.get(c)[2];
    return cost;
  }

  private int[] best;
  private int bestCost;

  /** Every rising row of sets, the lesser first, so that the first of the cheapest is met first. */
  private void tryCodes(int[] row, int size, int from, int cost, int distance) {
    if (best != null && cost >= bestCost && size < row.length || row.length - size > (1 << chalks.size()) - from) return;
    if (size == row.length) {
      if (best == null || cost < bestCost) {
        best = row.clone();
        bestCost = cost;
      }
      return;
    }
    for (int set = from; set < 1 << chalks.size(); set++) {
      boolean far = true;
      for (int i = 0; i < size; i++) far &= Integer.bitCount(row[i] ^ set) >= distance;
      if (far) {
        row[size] = set;
        tryCodes(row, size + 1, set + 1, cost + costOf(set), distance);
      }
    }
  }

  int code(int e, int d) {
    if (d != -1 && !isDoor(d)) return UNKNOWN;
    if (e < 0 || e > 2) return OUTSIDE;
    best = null;
    tryCodes(new int[n], 0, 0, 0, 2 * e + 1);
    if (best == null) return NONE;
    return d == -1 ? bestCost : best[d];
  }

  int windows(int length) {
    if (length < 1 || length > n) return OUTSIDE;
    Map<String, Integer> seen = new HashMap<>();
    for (int d = 0; d + length <= n; d++) seen.merge(now.marks.subList(d, d + length).toString(), 1, Integer::sum);
    int once = 0;
    for (int times : seen.values()) once += times == 1 ? 1 : 0;
    return once;
  }

  int leastWindow() {
    for (int length = 1; length <= n; length++) {
      if (windows(length) == n - length + 1) return length;
    }
    return NONE;
  }

  private long weight(int set, int nights, int d) {
    long weight = 1000000000L;
    for (int c = 0; c < chalks.size(); c++) {
      boolean there = now.marks.get(d).contains(c);
      int a = chalks.get(c)[3];
      if (elements(set).contains(c)) {
        long stays = 10000;
        for (int k = 0; k < nights; k++) stays = stays * (8 - washedBy(c)) / 8;
        weight = there ? weight * stays / 10000 : weight * (10000 - stays) / 10000;
      } else {
        weight = there ? weight * a / 8 : weight * (8 - a) / 8;
      }
    }
    return weight;
  }

  int belief(int set, int nights, int d) {
    if (strange(set, chalks.size()) || !isDoor(d)) return UNKNOWN;
    if (nights < 1 || nights > 9) return OUTSIDE;
    long all = 0;
    for (int x = 0; x < n; x++) all += weight(set, nights, x);
    return all == 0 ? 0 : (int) (1000000L * weight(set, nights, d) / all);
  }

  int bestDoor(int set, int nights) {
    if (strange(set, chalks.size())) return UNKNOWN;
    if (nights < 1 || nights > 9) return OUTSIDE;
    int found = NONE;
    for (int d = n - 1; d >= 0; d--) {
      long weight = weight(set, nights, d);
      if (weight > 0 && (found == NONE || weight >= weight(set, nights, found))) found = d;
    }
    return found;
  }

  private int place(int minute) {
    int door = 0;
    int step = 1;
    for (int k = 0; k < minute / l && n > 1; k++) {
      if (door == n - 1) step = -1;
      if (door == 0) step = 1;
      door += step;
    }
    return door;
  }

  int watchman(int minute) {
    if (minute < 0 || minute > 99999) return OUTSIDE;
    return l == 0 ? NONE : place(minute);
  }

  private int unseenBy(int d, int reach) {
    int most = 0;
    int run = 0;
    for (int minute = 0; minute < 5 * n * l; minute++) {
      run = Math.abs(place(minute) - d) > reach ? run + 1 : 0;
      most = Math.max(most, run);
    }
    return most;
  }

  int unseen(int d) {
    if (!isDoor(d)) return UNKNOWN;
    return l == 0 ? NONE : unseenBy(d, r);
  }

  int sight(int m) {
    if (m < 1 || m > 99) return OUTSIDE;
    if (l == 0) return NONE;
    for (int reach = 0; ; reach++) {
      // the ends are those that are longest unseen
      if (Math.max(unseenBy(0, reach), unseenBy(n - 1, reach)) < m) return reach;
    }
  }

  int forged(int a, int b) {
    if (a < 0 || a > 15 || b < 0 || b > 15) return OUTSIDE;
    int found = 0;
    for (int d = 0; d < n; d++) {
      int m = door(d, 0);
      if (m != 0 && m != (a * d + b) % 16) found += 1 << d;
    }
    return found;
  }

  int keys(int doors, int what) {
    if (strange(doors, n)) return UNKNOWN;
    if (what != 0 && what != 1) return OUTSIDE;
    TreeSet<Integer> fitting = new TreeSet<>();
    for (int a = 15; a >= 0; a--) {
      for (int b = 15; b >= 0; b--) {
        int wrong = 0;
        for (int d : elements(doors)) wrong += door(d, 0) == (a * d + b) % 16 ? 0 : 1;
        if (wrong == 0) fitting.add(16 * a + b);
      }
    }
    return what == 0 ? fitting.size() : fitting.isEmpty() ? NONE : fitting.first();
  }

  int note(int d, int night, boolean chalked) {
    if (!isDoor(d)) return UNKNOWN;
    if (night < 0 || night > 30) return OUTSIDE;
    if (noted.size() == 10) return FULL;
    noted.add(new int[] {d, night, chalked ? 1 : 0});
    return noted.size();
  }

  int first(int i) {
    List<Integer> all = new ArrayList<>();
    TreeSet<Integer> doors = new TreeSet<>();
    for (int g = 0; g <= 30; g++) {
      for (int d = 0; d < n; d++) {
        boolean fits = true;
        for (int[] x : noted) {
          boolean is = false;
          for (int h = 0; g + h <= x[1]; h++) is |= Math.abs(x[0] - d) <= h;
          fits &= is == (x[2] == 1);
        }
        if (fits) {
          all.add(100 * g + d);
          doors.add(d);
        }
      }
    }
    if (i == -1) return all.size();
    if (i == -2) return number(doors);
    return i >= 0 && i < all.size() ? all.get(i) : NONE;
  }

  int write(int d, int marks) {
    if (!isDoor(d)) return UNKNOWN;
    if (marks < 0 || marks > 15) return OUTSIDE;
    if (book.size() == 15) return FULL;
    book.add(new int[] {d, marks});
    return book.size();
  }

  int tear() {
    int had = noted.size() + book.size();
    noted.clear();
    book.clear();
    return had;
  }

  int judge() {
    for (int k = 0; k < book.size(); k++) {
      if (door(book.get(k)[0], 0) != book.get(k)[1]) return k;
    }
    return NONE;
  }

  int seed(int value) {
    if (value < 0) return OUTSIDE;
    int was = (int) now.seed;
    now.seed = value;
    return was;
  }

  int keep(int i) {
    if (i != 0 && i != 1) return UNKNOWN;
    images[i] = now.copy();
    return 1;
  }

  int goBack(int i) {
    if (i != 0 && i != 1) return UNKNOWN;
    if (images[i] == null) return NOT;
    now = images[i].copy();
    return 1;
  }
}
