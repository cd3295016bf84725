import java.util.Arrays;

/**
 * A street of doors with chalk marks: what a text tells of it, what is done to it, and what thieves, watchmen and
 * gangs can make of it. Every call answers with a number; a refused call changes nothing.
 */
public final class ChalkedDoors {
    public static final int NONE = -1, UNKNOWN = -1000000001, OUTSIDE = -1000000002, NOT = -1000000003, FULL = -1000000004;

    private static final int MOST_LETTERS = 200;
    private static final int MOST_DOORS = 14;
    private static final int MOST_CHALKS = 4;
    private static final int MOST_MARKS = 15;
    private static final int MOST_COST = 20;
    // More than two sets of all chalks can cost together.
    private static final int ABOVE_ALL_COSTS = 2 * MOST_CHALKS * MOST_COST + 1;
    private static final int MOST_CHILDREN = 7;
    private static final int MOST_STAY = 9;
    private static final int MOST_REACH = 13;
    private static final int MOST_SPENT = 999999;
    private static final int MOST_NIGHTS = 90000;
    private static final int MOST_NOTED = 10;
    private static final int MOST_ENTRIES = 15;
    private static final int LAST_FASHION_NIGHT = 30;
    private static final int LAST_MINUTE = 99999;

    private static final int OF_EIGHT = 8;
    private static final int UNTOLD_RAIN = 4;
    private static final int OIL = 1;
    private static final int CARVED = 2;
    private static final int KEY_SIZE = 16;
    private static final int WHOLE_PART = 10000;
    private static final long BILLION = 1000000000L;
    private static final long MILLION = 1000000L;

    private static final int MISPLACED = 1;
    private static final int BAD_NUMBER = 2;
    private static final int TOLD_AGAIN = 3;
    private static final int DOOR_AGAIN = 4;
    private static final int FAULT_BASE = -10;

    private final Reader reader = new Reader();
    private final Scene now = new Scene();
    private final Scene image0 = new Scene();
    private final Scene image1 = new Scene();
    private final Fashion fashion = new Fashion();
    private final Book book = new Book();
    private Plan plan = new Plan();
    private Plan draft = new Plan();
    private int keptImages;

    public ChalkedDoors() {
    }

    // ---- the street

    public int feed(int letter) {
        if (letter < 0 || letter > 255) {
            return OUTSIDE;
        }
        return reader.add(letter);
    }

    public int street() {
        int fault = reader.readInto(draft);
        if (fault != 0) {
            return FAULT_BASE - fault;
        }
        Plan old = plan;
        plan = draft;
        draft = old;
        now.begin(plan);
        fashion.count = 0;
        book.count = 0;
        keptImages = 0;
        return plan.doors;
    }

    public int fault() {
        return reader.faultAt;
    }

    public int told(int what) {
        switch (what) {
            case 0: return plan.doors;
            case 1: return plan.chalks;
            case 2: return plan.rain;
            case 3: return plan.stay;
            case 4: return plan.reach;
            case 5: return reader.length;
            case 6: return now.nights;
            case 7: return now.spent;
            case 8: return countBits(now.marks);
            case 9: return countBits(now.hidden);
            case 10: return fashion.count;
            case 11: return book.count;
            default: return OUTSIDE;
        }
    }

    public int chalk(int c, int what) {
        if (!plan.hasChalk(c)) {
            return UNKNOWN;
        }
        switch (what) {
            case 0: return plan.kinds[c];
            case 1: return plan.washes[c];
            case 2: return plan.costs[c];
            case 3: return plan.children[c];
            case 4: return plan.washedBy(c);
            default: return OUTSIDE;
        }
    }

    public int door(int d, int what) {
        if (!plan.hasDoor(d)) {
            return UNKNOWN;
        }
        switch (what) {
            case 0: return now.marks[d];
            case 1: return now.hidden[d];
            default: return OUTSIDE;
        }
    }

    // ---- what is done

    public int mark(int d, int c) {
        if (!plan.hasDoor(d) || !plan.hasChalk(c)) {
            return UNKNOWN;
        }
        if (has(now.marks[d], c)) {
            return NOT;
        }
        now.marks[d] |= 1 << c;
        now.spend(plan.costs[c]);
        return now.spent;
    }

    public int wipe(int d, int c) {
        if (!plan.hasDoor(d) || !plan.hasChalk(c)) {
            return UNKNOWN;
        }
        if (!has(now.marks[d], c)) {
            return NOT;
        }
        now.marks[d] &= ~(1 << c);
        return now.marks[d];
    }

    public int hide(int d, int c, boolean is) {
        if (!plan.hasDoor(d) || !plan.hasChalk(c)) {
            return UNKNOWN;
        }
        boolean was = has(now.hidden[d], c);
        if (is && !was) {
            now.hidden[d] |= 1 << c;
            now.spend(plan.costs[c]);
        }
        if (!is) {
            now.hidden[d] &= ~(1 << c);
        }
        return was ? 1 : 0;
    }

    public int copy(int d, int f) {
        if (!plan.hasDoor(d)) {
            return UNKNOWN;
        }
        if (f < 1 || f > MOST_REACH) {
            return OUTSIDE;
        }
        int wanted = now.marks[d];
        for (int x = 0; x < plan.doors; x++) {
            if (Math.abs(x - d) <= f) {
                now.spend(plan.costOf(wanted & ~now.marks[x]));
                now.marks[x] = wanted;
            }
        }
        return now.spent;
    }

    public int night(int n) {
        if (n < 1 || n > 99) {
            return OUTSIDE;
        }
        if (plan.doors == 0) {
            return NOT;
        }
        if (now.nights > MOST_NIGHTS) {
            return FULL;
        }
        for (int k = 0; k < n; k++) {
            now.passNight(plan);
        }
        return now.nights;
    }

    // ---- thieves

    public int like(int set) {
        if (!plan.hasChalksOf(set)) {
            return UNKNOWN;
        }
        int found = 0;
        for (int d = 0; d < plan.doors; d++) {
            if (now.marks[d] == set) {
                found |= 1 << d;
            }
        }
        return found;
    }

    public int fool(int set, int k, int what) {
        if (!plan.hasChalksOf(set)) {
            return UNKNOWN;
        }
        if (k < 2 || k > MOST_DOORS || what < 0 || what > 1) {
            return OUTSIDE;
        }
        if (plan.doors < k) {
            return NONE;
        }
        int chosen = 0;
        int changes = 0;
        for (int need = 0; need <= MOST_CHALKS; need++) {
            for (int d = 0; d < plan.doors; d++) {
                boolean wanted = need == 0 || Integer.bitCount(chosen) < k;
                if (wanted && Integer.bitCount(now.marks[d] ^ set) == need) {
                    chosen |= 1 << d;
                    changes += need;
                }
            }
        }
        return what == 0 ? changes : chosen;
    }

    public int code(int e, int d) {
        if (d != NONE && !plan.hasDoor(d)) {
            return UNKNOWN;
        }
        if (e < 0 || e > 2) {
            return OUTSIDE;
        }
        int words = plan.bestCode(2 * e + 1);
        if (words == NONE) {
            return NONE;
        }
        return d == NONE ? plan.costOfCode(words) : bitOfRank(words, d);
    }

    public int windows(int l) {
        if (l < 1 || l > plan.doors) {
            return OUTSIDE;
        }
        return countSingleWindows(l);
    }

    public int leastWindow() {
        for (int l = 1; l <= plan.doors; l++) {
            if (countSingleWindows(l) == plan.doors - l + 1) {
                return l;
            }
        }
        return NONE;
    }

    public int belief(int set, int n, int d) {
        if (!plan.hasChalksOf(set) || !plan.hasDoor(d)) {
            return UNKNOWN;
        }
        if (n < 1 || n > 9) {
            return OUTSIDE;
        }
        long all = 0;
        for (int x = 0; x < plan.doors; x++) {
            all += plan.weight(now.marks[x], set, n);
        }
        if (all <= 0) {
            return 0;
        }
        return (int) (plan.weight(now.marks[d], set, n) * MILLION / all);
    }

    public int bestDoor(int set, int n) {
        if (!plan.hasChalksOf(set)) {
            return UNKNOWN;
        }
        if (n < 1 || n > 9) {
            return OUTSIDE;
        }
        int best = NONE;
        long greatest = 0;
        for (int d = 0; d < plan.doors; d++) {
            long weight = plan.weight(now.marks[d], set, n);
            if (weight > greatest) {
                greatest = weight;
                best = d;
            }
        }
        return best;
    }

    // ---- watchmen

    public int watchman(int minute) {
        if (minute < 0 || minute > LAST_MINUTE) {
            return OUTSIDE;
        }
        if (plan.stay == 0) {
            return NONE;
        }
        return plan.doorAtStop(minute / plan.stay);
    }

    public int unseen(int d) {
        if (!plan.hasDoor(d)) {
            return UNKNOWN;
        }
        if (plan.stay == 0) {
            return NONE;
        }
        return plan.longestUnseen(d, plan.reach);
    }

    public int sight(int m) {
        if (m < 1 || m > 99) {
            return OUTSIDE;
        }
        if (plan.stay == 0) {
            return NONE;
        }
        for (int reach = 0; reach <= MOST_REACH; reach++) {
            if (plan.nobodyUnseen(m, reach)) {
                return reach;
            }
        }
        return NONE;
    }

    // ---- gangs, fashions

    public int forged(int a, int b) {
        if (!isKeyPart(a) || !isKeyPart(b)) {
            return OUTSIDE;
        }
        int found = 0;
        for (int d = 0; d < plan.doors; d++) {
            if (now.marks[d] != 0 && now.marks[d] != sign(a, b, d)) {
                found |= 1 << d;
            }
        }
        return found;
    }

    public int keys(int doors, int what) {
        if (!plan.hasDoorsOf(doors)) {
            return UNKNOWN;
        }
        if (what < 0 || what > 1) {
            return OUTSIDE;
        }
        int fitting = 0;
        int least = NONE;
        for (int key = 0; key < KEY_SIZE * KEY_SIZE; key++) {
            if (keyFits(key / KEY_SIZE, key % KEY_SIZE, doors)) {
                if (fitting == 0) {
                    least = key;
                }
                fitting++;
            }
        }
        return what == 0 ? fitting : least;
    }

    public int note(int d, int n, boolean chalked) {
        if (!plan.hasDoor(d)) {
            return UNKNOWN;
        }
        if (n < 0 || n > LAST_FASHION_NIGHT) {
            return OUTSIDE;
        }
        return fashion.add(d, n, chalked);
    }

    public int first(int i) {
        int fitting = 0;
        int doors = 0;
        for (int g = 0; g <= LAST_FASHION_NIGHT; g++) {
            for (int d = 0; d < plan.doors; d++) {
                if (fashion.allFits(d, g)) {
                    if (fitting == i) {
                        return 100 * g + d;
                    }
                    fitting++;
                    doors |= 1 << d;
                }
            }
        }
        if (i == -2) {
            return doors;
        }
        return i == NONE ? fitting : NONE;
    }

    // ---- books, images

    public int write(int d, int marks) {
        if (!plan.hasDoor(d)) {
            return UNKNOWN;
        }
        if (marks < 0 || marks > MOST_MARKS) {
            return OUTSIDE;
        }
        return book.add(d, marks);
    }

    public int tear() {
        int had = fashion.count + book.count;
        fashion.count = 0;
        book.count = 0;
        return had;
    }

    public int judge() {
        return book.firstWrong(now.marks);
    }

    public int seed(int v) {
        if (v < 0) {
            return OUTSIDE;
        }
        int was = now.seed;
        now.seed = v;
        return was;
    }

    public int keep(int i) {
        if (i < 0 || i > 1) {
            return UNKNOWN;
        }
        imageOf(i).become(now);
        keptImages |= 1 << i;
        return 1;
    }

    public int goBack(int i) {
        if (i < 0 || i > 1) {
            return UNKNOWN;
        }
        if (!has(keptImages, i)) {
            return NOT;
        }
        now.become(imageOf(i));
        return 1;
    }

    private Scene imageOf(int i) {
        return i == 0 ? image0 : image1;
    }

    private int countSingleWindows(int l) {
        int single = 0;
        for (int at = 0; at + l <= plan.doors; at++) {
            if (comesButOnce(at, l)) {
                single++;
            }
        }
        return single;
    }

    private boolean comesButOnce(int at, int l) {
        for (int other = 0; other + l <= plan.doors; other++) {
            if (other != at && sameRow(at, other, l)) {
                return false;
            }
        }
        return true;
    }

    private boolean sameRow(int one, int other, int l) {
        for (int k = 0; k < l; k++) {
            if (now.marks[one + k] != now.marks[other + k]) {
                return false;
            }
        }
        return true;
    }

    private boolean keyFits(int a, int b, int doors) {
        for (int d = 0; d < plan.doors; d++) {
            if (has(doors, d) && now.marks[d] != sign(a, b, d)) {
                return false;
            }
        }
        return true;
    }

    private static boolean isKeyPart(int part) {
        return part >= 0 && part < KEY_SIZE;
    }

    private static int sign(int a, int b, int d) {
        return (a * d + b) % KEY_SIZE;
    }

    private static boolean has(int set, int k) {
        return (set >> k & 1) != 0;
    }

    private static int countBits(int[] sets) {
        int bits = 0;
        for (int set : sets) {
            bits += Integer.bitCount(set);
        }
        return bits;
    }

    private static int bitOfRank(int set, int rank) {
        int passed = 0;
        for (int k = 0; k < 31; k++) {
            if (has(set, k)) {
                if (passed == rank) {
                    return k;
                }
                passed++;
            }
        }
        return NONE;
    }

    /** What the text tells: it stays until the next text, whatever is done in the street. */
    private static final class Plan {
        private int doors;
        private int chalks;
        private final int[] kinds = new int[MOST_CHALKS];
        private final int[] washes = new int[MOST_CHALKS];
        private final int[] costs = new int[MOST_CHALKS];
        private final int[] children = new int[MOST_CHALKS];
        private final int[] firstMarks = new int[MOST_DOORS];
        private int rain = UNTOLD_RAIN;
        private int stay;
        private int reach;

        private void clear() {
            doors = 0;
            chalks = 0;
            Arrays.fill(firstMarks, 0);
            rain = UNTOLD_RAIN;
            stay = 0;
            reach = 0;
        }

        private void addChalk(int kind, int wash, int cost, int child) {
            if (chalks >= MOST_CHALKS) {
                return;
            }
            kinds[chalks] = kind;
            washes[chalks] = wash;
            costs[chalks] = cost;
            children[chalks] = child;
            chalks++;
        }

        private boolean hasDoor(int d) {
            return d >= 0 && d < doors;
        }

        private boolean hasChalk(int c) {
            return c >= 0 && c < chalks;
        }

        private boolean hasDoorsOf(int set) {
            return set >= 0 && set < 1 << doors;
        }

        private boolean hasChalksOf(int set) {
            return set >= 0 && set < 1 << chalks;
        }

        private int washedBy(int c) {
            if (kinds[c] == CARVED) {
                return 0;
            }
            return kinds[c] == OIL ? washes[c] / 2 : washes[c];
        }

        private int costOf(int set) {
            int cost = 0;
            for (int c = 0; c < chalks; c++) {
                if (has(set, c)) {
                    cost += costs[c];
                }
            }
            return cost;
        }

        /** The code as a set of sets (bit s for the set s), so that its rising order is the bits' own; NONE. */
        private int bestCode(int distance) {
            if (distance == 1) {
                return cheapestSets();
            }
            if (doors < 2) {
                return (1 << doors) - 1;
            }
            // Three sets of four chalks have at most 8 differences among them, and 9 would be needed.
            return doors == 2 ? cheapestPair(distance) : NONE;
        }

        /** Any two sets differ in a chalk, so the cheapest ones are the code, of like ones the least. */
        private int cheapestSets() {
            if (doors > 1 << chalks) {
                return NONE;
            }
            int words = 0;
            for (int d = 0; d < doors; d++) {
                words |= 1 << cheapestSetBeside(words);
            }
            return words;
        }

        private int cheapestSetBeside(int words) {
            int best = 0;
            int least = ABOVE_ALL_COSTS;
            for (int set = 0; set < 1 << chalks; set++) {
                if (!has(words, set) && costOf(set) < least) {
                    least = costOf(set);
                    best = set;
                }
            }
            return best;
        }

        private int cheapestPair(int distance) {
            int best = NONE;
            int least = ABOVE_ALL_COSTS;
            for (int one = 0; one < 1 << chalks; one++) {
                for (int other = one + 1; other < 1 << chalks; other++) {
                    int cost = costOf(one) + costOf(other);
                    if (Integer.bitCount(one ^ other) >= distance && cost < least) {
                        least = cost;
                        best = 1 << one | 1 << other;
                    }
                }
            }
            return best;
        }

        private int costOfCode(int words) {
            int cost = 0;
            for (int set = 0; set < 1 << chalks; set++) {
                if (has(words, set)) {
                    cost += costOf(set);
                }
            }
            return cost;
        }

        /** How well the marks that are left bear out that the set was put so many rainy nights ago. */
        private long weight(int left, int set, int nights) {
            long weight = BILLION;
            for (int c = 0; c < chalks; c++) {
                if (has(set, c)) {
                    int stays = partThatStays(c, nights);
                    weight = weight * (has(left, c) ? stays : WHOLE_PART - stays) / WHOLE_PART;
                } else {
                    weight = weight * (has(left, c) ? children[c] : OF_EIGHT - children[c]) / OF_EIGHT;
                }
            }
            return weight;
        }

        private int partThatStays(int c, int nights) {
            int part = WHOLE_PART;
            for (int k = 0; k < nights; k++) {
                part = part * (OF_EIGHT - washedBy(c)) / OF_EIGHT;
            }
            return part;
        }

        /** To the last door and back again: the two ends come once a round, the others twice. */
        private int stopsOfRound() {
            return doors > 1 ? 2 * (doors - 1) : 1;
        }

        private int doorAtStop(int stop) {
            int round = stopsOfRound();
            int inRound = stop % round;
            return inRound < doors ? inRound : round - inRound;
        }

        private int longestUnseen(int d, int far) {
            int longest = 0;
            int run = 0;
            // Two rounds, since the longest run may go over the end of a round.
            for (int stop = 0; stop < 2 * stopsOfRound(); stop++) {
                run = Math.abs(doorAtStop(stop) - d) <= far ? 0 : run + 1;
                longest = Math.max(longest, run);
            }
            return longest * stay;
        }

        private boolean nobodyUnseen(int minutes, int far) {
            for (int d = 0; d < doors; d++) {
                if (longestUnseen(d, far) >= minutes) {
                    return false;
                }
            }
            return true;
        }
    }

    /** The text, and how it is read into a plan up to its first fault. */
    private static final class Reader {
        private final int[] letters = new int[MOST_LETTERS];
        private int length;
        private int at;
        private int fault;
        private int faultAt = NONE;
        private int numberAt;
        private boolean rainTold;
        private int doorsTold;

        private int add(int letter) {
            if (length >= MOST_LETTERS) {
                return FULL;
            }
            letters[length] = letter;
            length++;
            return length;
        }

        private int readInto(Plan plan) {
            at = 0;
            fault = 0;
            faultAt = NONE;
            rainTold = false;
            doorsTold = 0;
            plan.clear();
            for (int clause = 0; clause < MOST_LETTERS && fault == 0; clause++) {
                skipBlanks();
                if (at >= length) {
                    break;
                }
                readClause(plan, letters[at]);
            }
            length = 0;
            return fault;
        }

        private void readClause(Plan plan, int word) {
            if (word != 's' && plan.doors == 0) {
                fail(MISPLACED, at);
                return;
            }
            switch (word) {
                case 's':
                    readDoors(plan);
                    break;
                case 'c':
                    readChalk(plan);
                    break;
                case 'm':
                    readMarks(plan);
                    break;
                case 'r':
                    readRain(plan);
                    break;
                case 'w':
                    readWatchman(plan);
                    break;
                default:
                    fail(MISPLACED, at);
                    break;
            }
        }

        private void readDoors(Plan plan) {
            passWord(plan.doors > 0);
            plan.doors = readNumber(1, MOST_DOORS);
            passEnd();
        }

        private void readChalk(Plan plan) {
            passWord(plan.chalks >= MOST_CHALKS);
            int kind = readNumber(0, CARVED);
            int wash = readNumber(0, OF_EIGHT);
            int cost = readNumber(0, MOST_COST);
            int child = readNumber(0, MOST_CHILDREN);
            passEnd();
            if (fault == 0) {
                plan.addChalk(kind, wash, cost, child);
            }
        }

        private void readMarks(Plan plan) {
            passWord(false);
            int d = readNumber(0, plan.doors - 1);
            if (fault == 0 && has(doorsTold, d)) {
                fail(DOOR_AGAIN, numberAt);
            }
            int set = readNumber(0, (1 << plan.chalks) - 1);
            passEnd();
            if (fault == 0 && plan.hasDoor(d)) {
                doorsTold |= 1 << d;
                plan.firstMarks[d] = set;
            }
        }

        private void readRain(Plan plan) {
            passWord(rainTold);
            plan.rain = readNumber(0, OF_EIGHT);
            rainTold = true;
            passEnd();
        }

        private void readWatchman(Plan plan) {
            passWord(plan.stay > 0);
            plan.stay = readNumber(1, MOST_STAY);
            plan.reach = readNumber(0, MOST_REACH);
            passEnd();
        }

        private void passWord(boolean again) {
            if (again) {
                fail(TOLD_AGAIN, at);
            } else {
                at++;
            }
        }

        /** Behind a fault nothing is read any more, so that the first one stands. */
        private int readNumber(int least, int most) {
            if (fault != 0) {
                return 0;
            }
            skipBlanks();
            numberAt = at;
            int number = 0;
            while (at < length && letters[at] >= '0' && letters[at] <= '9') {
                if (at - numberAt < 3) {
                    number = 10 * number + letters[at] - '0';
                }
                at++;
            }
            int figures = at - numberAt;
            if (figures == 0) {
                fail(MISPLACED, at);
            } else if (figures > 3 || number < least || number > most) {
                fail(BAD_NUMBER, numberAt);
            }
            return number;
        }

        private void passEnd() {
            if (fault != 0) {
                return;
            }
            skipBlanks();
            if (at < length && letters[at] == ';') {
                at++;
            } else {
                fail(MISPLACED, at);
            }
        }

        private void skipBlanks() {
            while (at < length && letters[at] == ' ') {
                at++;
            }
        }

        private void fail(int kind, int where) {
            fault = kind;
            faultAt = where;
        }
    }

    /** What is so in the street: all that an image keeps. */
    private static final class Scene {
        private final int[] marks = new int[MOST_DOORS];
        private final int[] hidden = new int[MOST_DOORS];
        private int nights;
        private int spent;
        private int seed;

        /** The seed stays as it is: a new street goes on with the draws of the old one. */
        private void begin(Plan plan) {
            System.arraycopy(plan.firstMarks, 0, marks, 0, MOST_DOORS);
            Arrays.fill(hidden, 0);
            nights = 0;
            spent = 0;
        }

        private void become(Scene other) {
            System.arraycopy(other.marks, 0, marks, 0, MOST_DOORS);
            System.arraycopy(other.hidden, 0, hidden, 0, MOST_DOORS);
            nights = other.nights;
            spent = other.spent;
            seed = other.seed;
        }

        private void spend(int cost) {
            spent = Math.min(MOST_SPENT, spent + cost);
        }

        private int draw() {
            seed = (int) ((seed * 1103515245L + 12345L) & 0x7fffffffL);
            return seed / 65536;
        }

        private void passNight(Plan plan) {
            if (draw() % 8 < plan.rain) {
                washDoors(plan);
            }
            letChildrenPlay(plan);
            nights++;
        }

        private void washDoors(Plan plan) {
            for (int d = 0; d < plan.doors; d++) {
                for (int c = 0; c < plan.chalks; c++) {
                    // Carved marks are drawn for, too, though no draw is low enough for them.
                    if (has(marks[d], c) && draw() % 8 < plan.washedBy(c)) {
                        marks[d] &= ~(1 << c);
                    }
                }
            }
        }

        private void letChildrenPlay(Plan plan) {
            for (int d = 0; d < plan.doors; d++) {
                for (int c = 0; c < plan.chalks; c++) {
                    if (plan.children[c] > 0 && draw() % 64 < plan.children[c]) {
                        marks[d] |= 1 << c;
                    }
                }
            }
        }
    }

    /** What was noted of a fashion that spreads from one door, a door further each night. */
    private static final class Fashion {
        private final int[] doors = new int[MOST_NOTED];
        private final int[] nights = new int[MOST_NOTED];
        private final boolean[] chalked = new boolean[MOST_NOTED];
        private int count;

        private int add(int d, int n, boolean is) {
            if (count >= MOST_NOTED) {
                return FULL;
            }
            doors[count] = d;
            nights[count] = n;
            chalked[count] = is;
            count++;
            return count;
        }

        private boolean allFits(int origin, int night) {
            for (int k = 0; k < count; k++) {
                // A distance is never below 0, so that no door is chalked ahead of the first night.
                boolean is = Math.abs(doors[k] - origin) <= nights[k] - night;
                if (is != chalked[k]) {
                    return false;
                }
            }
            return true;
        }
    }

    /** Entries that tell marks of doors. */
    private static final class Book {
        private final int[] doors = new int[MOST_ENTRIES];
        private final int[] sets = new int[MOST_ENTRIES];
        private int count;

        private int add(int d, int set) {
            if (count >= MOST_ENTRIES) {
                return FULL;
            }
            doors[count] = d;
            sets[count] = set;
            count++;
            return count;
        }

        private int firstWrong(int[] marks) {
            for (int k = 0; k < count; k++) {
                if (marks[doors[k]] != sets[k]) {
                    return k;
                }
            }
            return NONE;
        }
    }
}
