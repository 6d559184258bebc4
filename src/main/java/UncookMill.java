/** A kitchen with a mill that uncooks; the document's promises 1 to 37. */
public final class UncookMill {
    public static final int BAD = -1, STATE = -2, FULL = -3, NONE = -4;

    private static final int STUFFS_AT_MOST = 8;
    private static final int PANTRY_AT_MOST = 40;
    private static final int DIGIT_AT_MOST = 9;
    private static final int SEEN_AT_MOST = 8;
    private static final int TAPE_AT_MOST = 160;
    private static final int BYTE_AT_MOST = 127;

    private static final int MIXED = 0, BOILED = 1, BURNT = 2, SALTED = 3, RAW = 4;
    private static final int HAVE = 5;

    /** A DOING below it cooks, one from it on turns. */
    private static final int TURNING = 10;
    /** Rows are asked for by 10 and the place in them. */
    private static final int IN_ROW = 10;
    private static final int DOINGS_AT_MOST = 4;

    /** STUFF 7 can be made of 128 raw ones, and then 127 TURNS part them. */
    private static final int ROW_AT_MOST = 128;
    private static final int TURNS_AT_MOST = 127;

    /** STUFF 7 can stand on seven salted ones: ten to the seventh divides out every odds. */
    private static final long ODDS_SCALE = 10000000L;
    private static final int ODDS_AT_MOST = 10;
    /** Every two divisions halve a rest at least, so longs never need as many. */
    private static final int DIVISIONS_AT_MOST = 128;

    private static final int SEED_FACTOR = 1103515245, SEED_STEP = 12345;
    private static final int DRIFT_AT_MOST = 60;

    private static final int IMAGES = 2;
    private static final int SHEETS = 4, LANES = 3, CELLS_AT_MOST = 40, READ_AT_MOST = 20;
    private static final int FAULT_NULL = 1, FAULT_INDEX = 2, FAULT_CAST = 3, FAULT_SIZE = 4;
    /** A FAULT, or its place, is answered as this less it; a refused DOING as the other. */
    private static final int FAULTY = -10, REFUSED = -20;

    private final Kitchen kitchen = new Kitchen();
    /** A text is read into it, a read that is refused is undone by it, a drift goes on in it. */
    private final Kitchen spare = new Kitchen();
    private final Tape tape = new Tape();
    private final TextReader reader = new TextReader(tape, spare);
    private final Kitchen imageA = new Kitchen();
    private final Kitchen imageB = new Kitchen();
    private final boolean[] hasImage = new boolean[IMAGES];
    private final Mill mill = new Mill();
    private final Search search = new Search();
    private final Sheets sheets = new Sheets();
    private final int[] need = new int[STUFFS_AT_MOST];
    private final int[] tally = new int[STUFFS_AT_MOST];
    private final long[] means = new long[STUFFS_AT_MOST];
    private int textFault = 0;
    private int readFault = 0;

    public UncookMill() {
    }

    // ---- the text

    public int feed(int c) {
        if (c < 0 || c > BYTE_AT_MOST) {
            return BAD;
        }
        if (tape.size >= TAPE_AT_MOST) {
            return FULL;
        }
        tape.append(c);
        return tape.size;
    }

    public int end(int n) {
        if (n < 0 || n > tape.size) {
            return BAD;
        }
        int had = tape.size;
        tape.size = n;
        return had;
    }

    public int text() {
        int lines = reader.readAll();
        tape.size = 0;
        textFault = reader.fault;
        if (textFault != 0) {
            return FAULTY - reader.faultPlace;
        }
        kitchen.copyFrom(spare);
        for (int k = 0; k < IMAGES; k++) {
            hasImage[k] = false;
        }
        return lines;
    }

    public int fault() {
        return textFault;
    }

    public int rule(int what) {
        switch (what) {
            case 0:
                return kitchen.size;
            case 1:
                return kitchen.fed;
            case 2:
                return kitchen.done;
            case 3:
                return kitchen.rawBits();
            case 4:
                return kitchen.thereBits();
            default:
                return BAD;
        }
    }

    public int stuff(int m, int what) {
        if (!kitchen.hasStuff(m)) {
            return BAD;
        }
        boolean made = kitchen.isMade(m);
        switch (what) {
            case 0:
                return kitchen.kindOf[m];
            case 1:
                return made ? kitchen.partA[m] : NONE;
            case 2:
                return made ? kitchen.partB[m] : NONE;
            case 3:
                return kitchen.feedsOf[m];
            case 4:
                return made ? NONE : kitchen.priceOf[m];
            case 5:
                return kitchen.half[m];
            case 6:
                return kitchen.pantry[m];
            default:
                return BAD;
        }
    }

    // ---- what is changed

    public int fill(int m, int n) {
        if (!kitchen.hasStuff(m) || n < 0 || n > PANTRY_AT_MOST) {
            return BAD;
        }
        int had = kitchen.pantry[m];
        kitchen.pantry[m] = n;
        return had;
    }

    public int feeds(int m, int v) {
        if (!kitchen.hasStuff(m) || !isDigit(v)) {
            return BAD;
        }
        int was = kitchen.feedsOf[m];
        kitchen.feedsOf[m] = v;
        return was;
    }

    public int price(int m, int v) {
        if (!kitchen.hasStuff(m) || !isDigit(v)) {
            return BAD;
        }
        if (kitchen.isMade(m)) {
            return STATE;
        }
        int was = kitchen.priceOf[m];
        kitchen.priceOf[m] = v;
        return was;
    }

    public int kind(int m, int k) {
        if (!kitchen.hasStuff(m) || k < MIXED || k > SALTED) {
            return BAD;
        }
        if (!kitchen.isMade(m)) {
            return STATE;
        }
        int was = kitchen.kindOf[m];
        kitchen.kindOf[m] = k;
        return was;
    }

    // ---- the kitchen

    public int does(int doing) {
        if (!kitchen.hasDoing(doing)) {
            return BAD;
        }
        if (!kitchen.isAble(doing)) {
            return STATE;
        }
        kitchen.perform(doing);
        return kitchen.pantry[stuffOf(doing)];
    }

    public int eat(int m) {
        if (!kitchen.hasStuff(m)) {
            return BAD;
        }
        if (kitchen.pantry[m] == 0) {
            return STATE;
        }
        kitchen.pantry[m]--;
        kitchen.fed += kitchen.feedsOf[m];
        return kitchen.fed;
    }

    public int can(int what) {
        if (!isFlag(what)) {
            return BAD;
        }
        int bits = 0;
        for (int m = 0; m < kitchen.size; m++) {
            if (kitchen.isAble(what * TURNING + m)) {
                bits |= 1 << m;
            }
        }
        return bits;
    }

    public int most(int m) {
        if (!kitchen.hasStuff(m)) {
            return BAD;
        }
        if (!kitchen.isMade(m)) {
            return STATE;
        }
        int had = 0;
        while (had < PANTRY_AT_MOST && kitchen.isEnoughFor(m, had + 1, need)) {
            had++;
        }
        return had;
    }

    public int holds(int m, int x) {
        if (!kitchen.hasStuff(m) || !kitchen.hasStuff(x)) {
            return BAD;
        }
        if (kitchen.isMade(x)) {
            return STATE;
        }
        kitchen.rawNeed(m, need);
        return need[x];
    }

    public int cost(int m) {
        return kitchen.hasStuff(m) ? kitchen.rawCost(m, need) : BAD;
    }

    // ---- the mill

    public int turns(int m, int what) {
        if (!kitchen.hasStuff(m) || !isFlag(what)) {
            return BAD;
        }
        mill.grind(kitchen, m, TURNS_AT_MOST);
        return what == 0 ? mill.turned : mill.size;
    }

    public int comes(int m, int i) {
        if (!kitchen.hasStuff(m) || i < 0) {
            return BAD;
        }
        mill.grind(kitchen, m, TURNS_AT_MOST);
        return i < mill.size ? mill.row[i] : NONE;
    }

    public int after(int m, int n, int x) {
        if (!kitchen.hasStuff(m) || n < 0 || n > TURNS_AT_MOST || !kitchen.hasStuff(x)) {
            return BAD;
        }
        mill.grind(kitchen, m, n);
        return mill.howManyOf(x);
    }

    public int first(int m, int x) {
        if (!kitchen.hasStuff(m) || !kitchen.hasStuff(x)) {
            return BAD;
        }
        mill.grind(kitchen, m, TURNS_AT_MOST);
        return mill.firstTurn[x];
    }

    public int loss(int m) {
        if (!kitchen.hasStuff(m)) {
            return BAD;
        }
        mill.grind(kitchen, m, TURNS_AT_MOST);
        int left = 0;
        for (int i = 0; i < mill.size; i++) {
            int x = mill.row[i];
            left += kitchen.isMade(x) ? 0 : kitchen.priceOf[x];
        }
        return kitchen.rawCost(m, need) - left;
    }

    public long mean(int v, int m, int x, int what) {
        if (v < 0 || v > ODDS_AT_MOST || !kitchen.hasStuff(m) || !kitchen.hasStuff(x) || !isFlag(what)) {
            return BAD;
        }
        if (kitchen.isMade(x)) {
            return STATE;
        }
        long scaled = scaledMean(v, m, x);
        long common = greatestCommon(scaled, ODDS_SCALE);
        return (what == 0 ? scaled : ODDS_SCALE) / common;
    }

    // ---- few doings

    public int best(int k, int what) {
        if (k < 0 || k > DOINGS_AT_MOST || what != 0 && what != 1 && what < IN_ROW) {
            return BAD;
        }
        search.findRichest(kitchen, k);
        if (what == 0) {
            return search.worth;
        }
        return what == 1 ? search.size : search.doingAt(what - IN_ROW);
    }

    public int least(int m, int what) {
        if (!kitchen.hasStuff(m) || what != 0 && what < IN_ROW) {
            return BAD;
        }
        if (!search.findFewest(kitchen, m)) {
            return NONE;
        }
        return what == 0 ? search.size : search.doingAt(what - IN_ROW);
    }

    // ---- what was put in

    public int see(int x) {
        if (!kitchen.hasStuff(x)) {
            return BAD;
        }
        if (kitchen.seenSize >= SEEN_AT_MOST) {
            return FULL;
        }
        kitchen.seen[kitchen.seenSize] = x;
        kitchen.seenSize++;
        return kitchen.seenSize;
    }

    public int forget(int n) {
        if (n < 0 || n > kitchen.seenSize) {
            return BAD;
        }
        int were = kitchen.seenSize;
        kitchen.seenSize = n;
        return were;
    }

    public int fits() {
        int bits = 0;
        for (int m = 0; m < kitchen.size; m++) {
            mill.grind(kitchen, m, TURNS_AT_MOST);
            if (mill.beginsWith(kitchen.seen, kitchen.seenSize)) {
                bits |= 1 << m;
            }
        }
        return bits;
    }

    public int pairs(int what) {
        if (!isFlag(what)) {
            return BAD;
        }
        int found = 0;
        int earliest = NONE;
        for (int lesser = 0; lesser < kitchen.size; lesser++) {
            for (int greater = lesser; greater < kitchen.size; greater++) {
                if (fitTogether(lesser, greater)) {
                    earliest = found == 0 ? 10 * lesser + greater : earliest;
                    found++;
                }
            }
        }
        return what == 0 ? found : earliest;
    }

    // ---- by a seed

    public int drift(int seed, int n, int what) {
        if (n < 1 || n > DRIFT_AT_MOST || !isFlag(what)) {
            return BAD;
        }
        if (kitchen.size == 0) {
            return STATE;
        }
        spare.copyFrom(kitchen);
        int next = seed;
        for (int i = 0; i < n; i++) {
            next = next * SEED_FACTOR + SEED_STEP;
            int m = drawn(next) % kitchen.size;
            next = next * SEED_FACTOR + SEED_STEP;
            int doing = drawn(next) % 2 * TURNING + m;
            if (spare.isAble(doing)) {
                spare.perform(doing);
            }
        }
        return what == 0 ? spare.done - kitchen.done : spare.things();
    }

    // ---- images, sheets

    public int keep(int k) {
        if (!isImage(k)) {
            return BAD;
        }
        int had = hasImage[k] ? 1 : 0;
        imageOf(k).copyFrom(kitchen);
        hasImage[k] = true;
        return had;
    }

    public int back(int k) {
        if (!isImage(k)) {
            return BAD;
        }
        if (!hasImage[k]) {
            return STATE;
        }
        kitchen.copyFrom(imageOf(k));
        return kitchen.fed;
    }

    public int sheet(int k, int lane, int n) {
        if (!isSheet(k) || !isLane(lane) || n > CELLS_AT_MOST) {
            return BAD;
        }
        if (n < 0) {
            return FAULTY - FAULT_SIZE;
        }
        sheets.renew(k, lane, n);
        return 1;
    }

    public int lay(int k, int i, int v) {
        if (!isSheet(k)) {
            return BAD;
        }
        int found = sheets.faultAt(k, i);
        if (found != 0) {
            return FAULTY - found;
        }
        sheets.put(k, i, v);
        return 1;
    }

    public int read(int k, int lane, int f, int n) {
        if (!isSheet(k) || !isLane(lane) || n < 0 || n > READ_AT_MOST) {
            return BAD;
        }
        spare.copyFrom(kitchen);
        for (int i = 0; i < n; i++) {
            int found = sheets.faultAs(k, lane, f + i);
            if (found != 0) {
                readFault = found;
                return i;
            }
            if (does(sheets.cells[k][f + i]) < 0) {
                kitchen.copyFrom(spare);
                return REFUSED - i;
            }
        }
        readFault = 0;
        return n;
    }

    public int torn() {
        return readFault;
    }

    public int count(int what) {
        switch (what) {
            case 0:
                return kitchen.things();
            case 1:
                return kitchen.allFeeds();
            case 2:
                return kitchen.seenSize;
            case 3:
                return (hasImage[0] ? 1 : 0) + (hasImage[1] ? 1 : 0);
            case 4:
                return tape.size;
            case 5:
                return sheets.isNothing(0) ? NONE : sheets.sizeOf[0];
            default:
                return BAD;
        }
    }

    // ---- inside

    private static boolean isDigit(int v) {
        return v >= 0 && v <= DIGIT_AT_MOST;
    }

    private static boolean isFlag(int what) {
        return what == 0 || what == 1;
    }

    private static boolean isImage(int k) {
        return k >= 0 && k < IMAGES;
    }

    private Kitchen imageOf(int k) {
        return k == 0 ? imageA : imageB;
    }

    private static boolean isSheet(int k) {
        return k >= 0 && k < SHEETS;
    }

    private static boolean isLane(int lane) {
        return lane >= 0 && lane < LANES;
    }

    private static int stuffOf(int doing) {
        return doing >= TURNING ? doing - TURNING : doing;
    }

    /** Bits 16 to 30 of a seed. */
    private static int drawn(int seed) {
        return seed >>> 16 & 0x7FFF;
    }

    private static long greatestCommon(long a, long b) {
        long high = b;
        long low = a;
        for (int step = 0; step < DIVISIONS_AT_MOST && low > 0; step++) {
            long rest = high % low;
            high = low;
            low = rest;
        }
        return high > 0 ? high : 1;
    }

    /** Exact: STUFF i has at most i salted ones in it, so what is divided by ten still has a ten in it. */
    private long scaledMean(int v, int m, int x) {
        for (int i = 0; i <= m; i++) {
            if (!kitchen.isMade(i)) {
                means[i] = i == x ? ODDS_SCALE : 0;
                continue;
            }
            long ofA = means[kitchen.partA[i]];
            long ofB = means[kitchen.partB[i]];
            switch (kitchen.kindOf[i]) {
                case MIXED:
                    means[i] = ofA + ofB;
                    break;
                case BOILED:
                    means[i] = ofA;
                    break;
                case SALTED:
                    means[i] = ofA + ofB * v / ODDS_AT_MOST;
                    break;
                default:
                    means[i] = 0;
                    break;
            }
        }
        return means[m];
    }

    private boolean fitTogether(int one, int other) {
        for (int x = 0; x < STUFFS_AT_MOST; x++) {
            tally[x] = 0;
        }
        for (int i = 0; i < kitchen.seenSize; i++) {
            tally[kitchen.seen[i]]++;
        }
        mill.grind(kitchen, one, TURNS_AT_MOST);
        mill.takeFrom(tally);
        mill.grind(kitchen, other, TURNS_AT_MOST);
        mill.takeFrom(tally);
        for (int x = 0; x < STUFFS_AT_MOST; x++) {
            if (tally[x] != 0) {
                return false;
            }
        }
        return true;
    }

    /** The STUFFS and all that an IMAGE keeps of them. */
    private static final class Kitchen {
        private int size = 0;
        private final int[] kindOf = new int[STUFFS_AT_MOST];
        private final int[] partA = new int[STUFFS_AT_MOST];
        private final int[] partB = new int[STUFFS_AT_MOST];
        private final int[] feedsOf = new int[STUFFS_AT_MOST];
        private final int[] priceOf = new int[STUFFS_AT_MOST];
        private final int[] pantry = new int[STUFFS_AT_MOST];
        private final int[] half = new int[STUFFS_AT_MOST];
        private final int[] seen = new int[SEEN_AT_MOST];
        private int seenSize = 0;
        private int fed = 0;
        private int done = 0;

        private void clear() {
            size = 0;
            seenSize = 0;
            fed = 0;
            done = 0;
            for (int m = 0; m < STUFFS_AT_MOST; m++) {
                pantry[m] = 0;
                half[m] = 0;
            }
        }

        private void copyFrom(Kitchen other) {
            size = other.size;
            seenSize = other.seenSize;
            fed = other.fed;
            done = other.done;
            for (int m = 0; m < STUFFS_AT_MOST; m++) {
                kindOf[m] = other.kindOf[m];
                partA[m] = other.partA[m];
                partB[m] = other.partB[m];
                feedsOf[m] = other.feedsOf[m];
                priceOf[m] = other.priceOf[m];
                pantry[m] = other.pantry[m];
                half[m] = other.half[m];
            }
            for (int i = 0; i < SEEN_AT_MOST; i++) {
                seen[i] = other.seen[i];
            }
        }

        private void addRaw(int price, int feeds) {
            addMade(RAW, 0, 0, feeds);
            priceOf[size - 1] = price;
        }

        private void addMade(int kind, int a, int b, int feeds) {
            kindOf[size] = kind;
            partA[size] = a;
            partB[size] = b;
            feedsOf[size] = feeds;
            priceOf[size] = 0;
            size++;
        }

        private boolean hasStuff(int m) {
            return m >= 0 && m < size;
        }

        private boolean hasDoing(int doing) {
            return doing >= 0 && hasStuff(stuffOf(doing));
        }

        private boolean isMade(int m) {
            return kindOf[m] != RAW;
        }

        private int rawBits() {
            int bits = 0;
            for (int m = 0; m < size; m++) {
                bits |= isMade(m) ? 0 : 1 << m;
            }
            return bits;
        }

        private int thereBits() {
            int bits = 0;
            for (int m = 0; m < size; m++) {
                bits |= pantry[m] > 0 ? 1 << m : 0;
            }
            return bits;
        }

        private int things() {
            int sum = 0;
            for (int m = 0; m < size; m++) {
                sum += pantry[m];
            }
            return sum;
        }

        private int allFeeds() {
            int sum = 0;
            for (int m = 0; m < size; m++) {
                sum += pantry[m] * feedsOf[m];
            }
            return sum;
        }

        private boolean isAble(int doing) {
            int m = stuffOf(doing);
            if (doing < 0 || !hasStuff(m) || !isMade(m)) {
                return false;
            }
            return doing >= TURNING ? isTurnable(m) : isCookable(m);
        }

        private boolean isCookable(int m) {
            int a = partA[m];
            int b = partB[m];
            int ofB = a == b ? 2 : 1;
            return pantry[m] < PANTRY_AT_MOST && pantry[a] >= 1 && pantry[b] >= ofB;
        }

        private boolean isTurnable(int m) {
            if (kindOf[m] == BURNT || pantry[m] == 0) {
                return false;
            }
            int a = partA[m];
            int b = partB[m];
            if (!givesB(kindOf[m], half[m])) {
                return pantry[a] < PANTRY_AT_MOST;
            }
            int ofB = a == b ? 2 : 1;
            return pantry[a] < PANTRY_AT_MOST && pantry[b] + ofB <= PANTRY_AT_MOST;
        }

        private static boolean givesB(int kind, int half) {
            return kind == MIXED || kind == SALTED && half == 1;
        }

        private void perform(int doing) {
            int m = stuffOf(doing);
            if (doing >= TURNING) {
                moveTurned(m, 1);
                flipHalf(m);
            } else {
                moveCooked(m, 1);
            }
            done++;
        }

        /** HALF goes first: it must say again whether B came back. */
        private void undo(int doing) {
            int m = stuffOf(doing);
            if (doing >= TURNING) {
                flipHalf(m);
                moveTurned(m, -1);
            } else {
                moveCooked(m, -1);
            }
            done--;
        }

        private void moveCooked(int m, int times) {
            pantry[partA[m]] -= times;
            pantry[partB[m]] -= times;
            pantry[m] += times;
        }

        private void moveTurned(int m, int times) {
            pantry[m] -= times;
            pantry[partA[m]] += times;
            if (givesB(kindOf[m], half[m])) {
                pantry[partB[m]] += times;
            }
        }

        private void flipHalf(int m) {
            if (kindOf[m] == SALTED) {
                half[m] = 1 - half[m];
            }
        }

        /** By how much all FEEDS grow by a DOING. */
        private int gainOf(int doing) {
            int m = stuffOf(doing);
            int ofA = feedsOf[partA[m]];
            int ofB = feedsOf[partB[m]];
            if (doing < TURNING) {
                return feedsOf[m] - ofA - ofB;
            }
            return ofA + (givesB(kindOf[m], half[m]) ? ofB : 0) - feedsOf[m];
        }

        /** No DOING gains more, whatever HALVES are then. */
        private int gainBound() {
            int bound = 0;
            for (int m = 0; m < size; m++) {
                if (isMade(m)) {
                    bound = Math.max(bound, Math.abs(gainOf(m)));
                }
            }
            return bound;
        }

        /** Whether a DOING puts a STUFF there. */
        private boolean brings(int doing, int x) {
            int m = stuffOf(doing);
            return doing < TURNING ? m == x : partA[m] == x || partB[m] == x;
        }

        /** What is there of PARTS is used ahead of cooking more: cooking never yields more than it takes. */
        private boolean isEnoughFor(int m, int wanted, int[] need) {
            startNeed(m, wanted, need);
            for (int i = m; i >= 0; i--) {
                int lacking = i == m ? wanted : need[i] - pantry[i];
                if (lacking > 0) {
                    if (!isMade(i)) {
                        return false;
                    }
                    need[partA[i]] += lacking;
                    need[partB[i]] += lacking;
                }
            }
            return true;
        }

        private void rawNeed(int m, int[] need) {
            startNeed(m, 1, need);
            for (int i = m; i >= 0; i--) {
                if (isMade(i)) {
                    need[partA[i]] += need[i];
                    need[partB[i]] += need[i];
                }
            }
        }

        private static void startNeed(int m, int wanted, int[] need) {
            for (int i = 0; i < STUFFS_AT_MOST; i++) {
                need[i] = i == m ? wanted : 0;
            }
        }

        private int rawCost(int m, int[] need) {
            rawNeed(m, need);
            int sum = 0;
            for (int x = 0; x <= m; x++) {
                sum += isMade(x) ? 0 : need[x] * priceOf[x];
            }
            return sum;
        }
    }

    /** Takes one STUFF apart; what can not be parted goes from the front of the waiting things to the row. */
    private static final class Mill {
        /** Each step is a TURN or a thing for the row. */
        private static final int STEPS_AT_MOST = ROW_AT_MOST + TURNS_AT_MOST;

        private final int[] row = new int[ROW_AT_MOST];
        private int size = 0;
        private int turned = 0;
        /** Behind how many TURNS each STUFF lay in the row first. */
        private final int[] firstTurn = new int[STUFFS_AT_MOST];
        private final int[] half = new int[STUFFS_AT_MOST];
        /** The last one comes first; each TURN goes to lesser STUFFS, so one a STUFF and one more wait at most. */
        private final int[] waiting = new int[STUFFS_AT_MOST + 1];
        private int waitingSize = 0;

        private void grind(Kitchen kitchen, int m, int turnsAtMost) {
            start(m);
            for (int step = 0; step < STEPS_AT_MOST && turned < turnsAtMost && waitingSize > 0; step++) {
                int thing = takeWaiting();
                int kind = kitchen.kindOf[thing];
                if (kind == RAW || kind == BURNT) {
                    lieDown(thing);
                } else {
                    part(kitchen, thing, kind);
                }
            }
            for (int i = waitingSize - 1; i >= 0; i--) {
                lieDown(waiting[i]);
            }
        }

        private void start(int m) {
            size = 0;
            turned = 0;
            waitingSize = 0;
            for (int x = 0; x < STUFFS_AT_MOST; x++) {
                firstTurn[x] = NONE;
                half[x] = 0;
            }
            putWaiting(m);
        }

        private void part(Kitchen kitchen, int thing, int kind) {
            turned++;
            if (Kitchen.givesB(kind, half[thing])) {
                putWaiting(kitchen.partB[thing]);
            }
            putWaiting(kitchen.partA[thing]);
            if (kind == SALTED) {
                half[thing] = 1 - half[thing];
            }
        }

        private void putWaiting(int thing) {
            if (waitingSize < waiting.length) {
                waiting[waitingSize] = thing;
                waitingSize++;
            }
            if (firstTurn[thing] == NONE) {
                firstTurn[thing] = turned;
            }
        }

        private int takeWaiting() {
            waitingSize--;
            return waiting[waitingSize];
        }

        private void lieDown(int thing) {
            if (size < ROW_AT_MOST) {
                row[size] = thing;
                size++;
            }
        }

        private int howManyOf(int x) {
            int sum = 0;
            for (int i = 0; i < size; i++) {
                sum += row[i] == x ? 1 : 0;
            }
            return sum;
        }

        private boolean beginsWith(int[] seen, int seenSize) {
            if (seenSize > size) {
                return false;
            }
            for (int i = 0; i < seenSize; i++) {
                if (row[i] != seen[i]) {
                    return false;
                }
            }
            return true;
        }

        private void takeFrom(int[] tally) {
            for (int i = 0; i < size; i++) {
                tally[row[i]]--;
            }
        }
    }

    /** Tries rows of DOINGS on the kitchen itself, each undone again, so that nothing need be copied. */
    private static final class Search {
        private final int[] path = new int[DOINGS_AT_MOST];
        private final int[] found = new int[DOINGS_AT_MOST];
        private int size = 0;
        private int worth = 0;
        private int gainBound = 0;

        private int doingAt(int i) {
            return i >= 0 && i < size ? found[i] : NONE;
        }

        /** Shorter rows go first and lesser NUMBERS first: so only a greater sum takes the place of one found. */
        private void findRichest(Kitchen kitchen, int doings) {
            size = 0;
            worth = kitchen.allFeeds();
            gainBound = kitchen.gainBound();
            int atFirst = worth;
            for (int length = 1; length <= doings; length++) {
                tryRicher(kitchen, length, 0, atFirst);
            }
        }

        private void tryRicher(Kitchen kitchen, int length, int depth, int sum) {
            if (depth >= length) {
                keepPath(length, sum);
                return;
            }
            int hope = (length - depth - 1) * gainBound;
            for (int doing = 0; doing < TURNING + kitchen.size; doing++) {
                if (!kitchen.isAble(doing)) {
                    continue;
                }
                int then = sum + kitchen.gainOf(doing);
                if (then + hope > worth) {
                    path[depth] = doing;
                    kitchen.perform(doing);
                    tryRicher(kitchen, length, depth + 1, then);
                    kitchen.undo(doing);
                }
            }
        }

        private void keepPath(int length, int sum) {
            worth = sum;
            size = length;
            for (int i = 0; i < length; i++) {
                found[i] = path[i];
            }
        }

        private boolean findFewest(Kitchen kitchen, int m) {
            for (int length = 0; length <= DOINGS_AT_MOST; length++) {
                if (tryReaching(kitchen, m, length, 0)) {
                    keepPath(length, 0);
                    return true;
                }
            }
            return false;
        }

        /** Shorter rows have failed by then, so the last DOING alone can bring the STUFF. */
        private boolean tryReaching(Kitchen kitchen, int m, int length, int depth) {
            if (depth >= length) {
                return kitchen.pantry[m] > 0;
            }
            boolean last = depth + 1 == length;
            for (int doing = 0; doing < TURNING + kitchen.size; doing++) {
                if (!kitchen.isAble(doing) || last && !kitchen.brings(doing, m)) {
                    continue;
                }
                path[depth] = doing;
                kitchen.perform(doing);
                boolean reached = tryReaching(kitchen, m, length, depth + 1);
                kitchen.undo(doing);
                if (reached) {
                    return true;
                }
            }
            return false;
        }
    }

    /** Rows of every lane lie in ints; a lane is kept by narrowing what is laid. */
    private static final class Sheets {
        private static final int NOTHING = -1;
        private static final int OF_BYTES = 0, OF_SHORTS = 1;

        private final int[] laneOf = {NOTHING, NOTHING, NOTHING, NOTHING};
        private final int[] sizeOf = new int[SHEETS];
        private final int[][] cells = new int[SHEETS][CELLS_AT_MOST];

        private boolean isNothing(int k) {
            return laneOf[k] == NOTHING;
        }

        private void renew(int k, int lane, int n) {
            laneOf[k] = lane;
            sizeOf[k] = n;
            for (int i = 0; i < CELLS_AT_MOST; i++) {
                cells[k][i] = 0;
            }
        }

        private int faultAt(int k, int i) {
            if (isNothing(k)) {
                return FAULT_NULL;
            }
            return i < 0 || i >= sizeOf[k] ? FAULT_INDEX : 0;
        }

        /** As in Java, nothing can be taken as of any lane: the row is missed first, then its lane is wrong. */
        private int faultAs(int k, int lane, int i) {
            return isNothing(k) || laneOf[k] == lane ? faultAt(k, i) : FAULT_CAST;
        }

        private void put(int k, int i, int v) {
            switch (laneOf[k]) {
                case OF_BYTES:
                    cells[k][i] = (byte) v;
                    break;
                case OF_SHORTS:
                    cells[k][i] = (short) v;
                    break;
                default:
                    cells[k][i] = v;
                    break;
            }
        }
    }

    /** THE TAPE and the TOKEN that was read of it last. */
    private static final class Tape {
        private static final int BLANK = 32, SEMICOLON = 59;
        private static final int FIGURES_AT_MOST = 2;
        private static final int THE_END = 0, NAME = 1, NUMBER = 2, STOP = 3, NO_TOKEN = 4;

        private final byte[] bytes = new byte[TAPE_AT_MOST];
        private int size = 0;
        private int place = 0;
        private int token = THE_END;
        private int start = 0;
        private int value = 0;

        private void append(int c) {
            if (size < TAPE_AT_MOST) {
                bytes[size] = (byte) c;
                size++;
            }
        }

        private void rewind() {
            place = 0;
            token = THE_END;
            start = 0;
            value = 0;
        }

        private void readToken() {
            while (place < size && bytes[place] == BLANK) {
                place++;
            }
            start = place;
            value = 0;
            token = place < size ? tokenFrom(bytes[place]) : THE_END;
            if (token == STOP || token == NO_TOKEN) {
                place++;
                return;
            }
            while (place < size && tokenFrom(bytes[place]) == token) {
                value = token == NUMBER ? value * 10 + bytes[place] - '0' : 0;
                place++;
            }
            if (token == NUMBER && place - start > FIGURES_AT_MOST) {
                token = NO_TOKEN;
            }
        }

        private static int tokenFrom(int c) {
            if (c >= 'a' && c <= 'z') {
                return NAME;
            }
            if (c >= '0' && c <= '9') {
                return NUMBER;
            }
            return c == SEMICOLON ? STOP : NO_TOKEN;
        }

        private boolean isNamed(String word) {
            if (token != NAME || place - start != word.length()) {
                return false;
            }
            for (int i = 0; i < word.length(); i++) {
                if (bytes[start + i] != word.charAt(i)) {
                    return false;
                }
            }
            return true;
        }
    }

    /** Reads a text of THE TAPE till its first FAULT. */
    private static final class TextReader {
        private static final int NO_LINE = -1;
        private static final int NOT_READ = 1, NOT_THERE = 2, OUT_OF_BOUNDS = 3;
        private static final int TOLD_ALREADY = 4, ONE_TOO_MANY = 5, NO_SUCH_STUFF = 6;

        private final Tape tape;
        private final Kitchen kitchen;
        private int fault = 0;
        private int faultPlace = 0;
        /** STUFFS that a have told of (bits). */
        private int told = 0;

        private TextReader(Tape tape, Kitchen kitchen) {
            this.tape = tape;
            this.kitchen = kitchen;
        }

        /** How many lines; whether it was taken, fault tells. */
        private int readAll() {
            kitchen.clear();
            tape.rewind();
            fault = 0;
            faultPlace = 0;
            told = 0;
            int lines = 0;
            while (lines < TAPE_AT_MOST && readLine()) {
                lines++;
            }
            if (fault == 0 && told >> kitchen.size != 0) {
                refuse(NO_SUCH_STUFF, tape.size);
            }
            return lines;
        }

        /** Whether there was a line more, and it had no FAULT. */
        private boolean readLine() {
            tape.readToken();
            if (tape.token == Tape.THE_END) {
                return false;
            }
            int line = lineNamed();
            if (tape.token == Tape.NO_TOKEN) {
                refuse(NOT_READ, tape.start);
            } else if (line == NO_LINE) {
                refuse(NOT_THERE, tape.start);
            } else if (line == HAVE) {
                readHave();
            } else if (kitchen.size >= STUFFS_AT_MOST) {
                refuse(ONE_TOO_MANY, tape.start);
            } else if (line == RAW) {
                readRaw();
            } else {
                readMade(line);
            }
            return fault == 0;
        }

        private int lineNamed() {
            if (tape.isNamed("raw")) {
                return RAW;
            }
            if (tape.isNamed("mix")) {
                return MIXED;
            }
            if (tape.isNamed("boil")) {
                return BOILED;
            }
            if (tape.isNamed("burn")) {
                return BURNT;
            }
            if (tape.isNamed("salt")) {
                return SALTED;
            }
            return tape.isNamed("have") ? HAVE : NO_LINE;
        }

        private void readRaw() {
            int price = take(Tape.NUMBER, DIGIT_AT_MOST);
            int feeds = take(Tape.NUMBER, DIGIT_AT_MOST);
            take(Tape.STOP, 0);
            if (fault == 0) {
                kitchen.addRaw(price, feeds);
            }
        }

        private void readMade(int kind) {
            int a = take(Tape.NUMBER, kitchen.size - 1);
            int b = take(Tape.NUMBER, kitchen.size - 1);
            int feeds = take(Tape.NUMBER, DIGIT_AT_MOST);
            take(Tape.STOP, 0);
            if (fault == 0) {
                kitchen.addMade(kind, a, b, feeds);
            }
        }

        private void readHave() {
            int m = take(Tape.NUMBER, STUFFS_AT_MOST - 1);
            if (fault == 0 && (told >> m & 1) == 1) {
                refuse(TOLD_ALREADY, tape.start);
            }
            int n = take(Tape.NUMBER, PANTRY_AT_MOST);
            take(Tape.STOP, 0);
            if (fault == 0) {
                told |= 1 << m;
                kitchen.pantry[m] = n;
            }
        }

        /** The TOKEN's value; 0 from a FAULT on: nothing more is read then. */
        private int take(int wanted, int atMost) {
            if (fault != 0) {
                return 0;
            }
            tape.readToken();
            if (tape.token == Tape.NO_TOKEN) {
                refuse(NOT_READ, tape.start);
            } else if (tape.token != wanted) {
                refuse(NOT_THERE, tape.start);
            } else if (tape.value > atMost) {
                refuse(OUT_OF_BOUNDS, tape.start);
            }
            return fault == 0 ? tape.value : 0;
        }

        private void refuse(int kind, int at) {
            fault = kind;
            faultPlace = at;
        }
    }
}
