/**
 * A child is carried asleep over a pass, from arm to arm.
 * The document's promises are told in ../shared/DOC.md; words in capitals are its terms.
 */
public final class AsleepPass {
    public static final int BAD = -1, STATE = -2, FULL = -3, NONE = -4;

    private static final int MOST_STRETCHES = 10;
    private static final int MOST_BEARERS = 6;
    private static final int MOST_IMAGES = 2;
    private static final int HIGHEST = 9;
    private static final int DEEPEST = 9;
    private static final int DEPTHS = 10;
    private static final int OUT_OF = 20;
    private static final int FIRST_START = 5;
    private static final int MOST_QUIET = 4;
    private static final int MOST_READ = 20;

    private static final int HUMMER = 1;
    private static final int TREMBLER = 2;
    private static final int TALL = 3;
    private static final int TWIN = 4;
    private static final int PAID = 5;

    private final Reader reader;
    private final Way way;
    private final Way trial;
    private final Way[] images;
    private final boolean[] kept;
    private final Odds odds;
    private final Choice choice;
    private final Crossing crossing;
    private final Learnt learnt;
    private final Marked marked;
    private final Trails trails;
    private final Sheets sheets;
    private int textFault;
    private int readFault;

    public AsleepPass() {
        reader = new Reader();
        way = new Way();
        trial = new Way();
        images = new Way[MOST_IMAGES];
        for (int k = 0; k < MOST_IMAGES; k++) {
            images[k] = new Way();
        }
        kept = new boolean[MOST_IMAGES];
        odds = new Odds();
        choice = new Choice();
        crossing = new Crossing();
        learnt = new Learnt();
        marked = new Marked();
        trails = new Trails();
        sheets = new Sheets();
    }

    // ---- the text, what there is

    public int feed(long v) {
        return reader.tape.addBytes(v) ? reader.tape.length : FULL;
    }

    public int end(int n) {
        if (n < 0 || n > reader.tape.length) {
            return BAD;
        }
        int had = reader.tape.length;
        reader.tape.length = n;
        return had;
    }

    public int text() {
        reader.readAll();
        reader.tape.length = 0;
        textFault = reader.found;
        if (textFault != 0) {
            return -10 - reader.place;
        }
        way.copyOf(reader.told);
        learnt.size = 0;
        marked.size = 0;
        for (int k = 0; k < MOST_IMAGES; k++) {
            kept[k] = false;
        }
        return reader.lines;
    }

    public int fault() {
        return textFault;
    }

    public int rule(int what) {
        switch (what) {
            case 0: return way.stretches;
            case 1: return way.bearers;
            case 2: return way.startDepth;
            default: return BAD;
        }
    }

    public int stretch(int i, int what) {
        if (!way.hasStretch(i)) {
            return BAD;
        }
        switch (what) {
            case 0: return way.noises[i];
            case 1: return way.colds[i];
            case 2: return way.order[i];
            default: return BAD;
        }
    }

    public int bearer(int b, int what) {
        if (!way.hasBearer(b)) {
            return BAD;
        }
        switch (what) {
            case 0: return way.kinds[b];
            case 1: return way.paces[b];
            case 2: return way.warmths[b];
            default: return BAD;
        }
    }

    // ---- what is changed

    public int start(int v) {
        if (v < 1 || v > DEEPEST) {
            return BAD;
        }
        int was = way.startDepth;
        way.startDepth = v;
        return was;
    }

    public int noise(int i, int v) {
        return way.hasStretch(i) ? change(way.noises, i, v) : BAD;
    }

    public int cold(int i, int v) {
        return way.hasStretch(i) ? change(way.colds, i, v) : BAD;
    }

    public int step(int b, int v) {
        return way.hasBearer(b) ? change(way.paces, b, v) : BAD;
    }

    public int warm(int b, int v) {
        return way.hasBearer(b) ? change(way.warmths, b, v) : BAD;
    }

    public int put(int i, int b) {
        if (!way.hasStretch(i) || !way.hasBearer(b)) {
            return BAD;
        }
        int had = way.order[i];
        way.order[i] = b;
        return had;
    }

    private static int change(int[] row, int at, int v) {
        if (v < 0 || v > HIGHEST || at < 0 || at >= row.length) {
            return BAD;
        }
        int was = row[at];
        row[at] = v;
        return was;
    }

    // ---- harm, odds

    public int harm(int i, int a, int b) {
        return way.canHand(i, a, b) ? way.harmBy(i, a, b) : BAD;
    }

    public long wakes(int what) {
        if (!isFractionPart(what)) {
            return BAD;
        }
        return fraction(odds.waking(way, way.stretches, NONE), odds.whole, what);
    }

    public long awake(int i, int what) {
        return depth(i, 0, what);
    }

    public long depth(int i, int d, int what) {
        if (!way.hasStretch(i) || !isDepth(d) || !isFractionPart(what)) {
            return BAD;
        }
        odds.waking(way, i + 1, NONE);
        return fraction(odds.shares[d], odds.whole, what);
    }

    // ---- the best

    public long best(int what) {
        if (!isFractionPart(what)) {
            return BAD;
        }
        choice.plan(way, NONE);
        return fraction(choice.wakingAtFirst(way), choice.whole, what);
    }

    public int next(int i, int a, int d) {
        boolean fromNobody = a == NONE && i == 0;
        if (!way.hasStretch(i) || !(fromNobody || way.hasBearer(a)) || d < 1 || d > DEEPEST) {
            return BAD;
        }
        choice.plan(way, NONE);
        return choice.chosen[i][Choice.slot(a, d)];
    }

    public long without(int b, int what) {
        if (!way.hasBearer(b) || !isFractionPart(what)) {
            return BAD;
        }
        if (way.bearers < 2) {
            return STATE;
        }
        choice.plan(way, b);
        return fraction(choice.wakingAtFirst(way), choice.whole, what);
    }

    // ---- what to do

    public long quiet(int m, int what) {
        if (m < 0 || m > MOST_QUIET || !isAnswerPart(what)) {
            return BAD;
        }
        trial.copyOf(way);
        long least = odds.waking(way, way.stretches, NONE);
        int chosen = 0;
        for (int set = 1; set < 1 << way.stretches; set++) {
            int size = Integer.bitCount(set);
            if (size > m) {
                continue;
            }
            stopNoises(set);
            long waking = odds.waking(trial, trial.stretches, NONE);
            if (waking < least || waking == least && size < Integer.bitCount(chosen)) {
                least = waking;
                chosen = set;
            }
        }
        return what == 2 ? chosen : fraction(least, odds.whole, what);
    }

    private void stopNoises(int set) {
        for (int i = 0; i < way.stretches; i++) {
            trial.noises[i] = (set >> i & 1) == 1 ? 0 : way.noises[i];
        }
    }

    public long drop(int what) {
        if (!isAnswerPart(what)) {
            return BAD;
        }
        if (way.stretches == 0) {
            return STATE;
        }
        long least = odds.waking(way, way.stretches, 0);
        int chosen = 0;
        for (int i = 1; i < way.stretches; i++) {
            long waking = odds.waking(way, way.stretches, i);
            if (waking < least) {
                least = waking;
                chosen = i;
            }
        }
        return what == 2 ? chosen : fraction(least, odds.whole, what);
    }

    public long swap(int what) {
        if (!isAnswerPart(what)) {
            return BAD;
        }
        trial.copyOf(way);
        long least = odds.waking(way, way.stretches, NONE);
        int chosen = NONE;
        for (int i = 0; i < way.stretches; i++) {
            for (int j = i + 1; j < way.stretches; j++) {
                trial.exchange(i, j);
                long waking = odds.waking(trial, trial.stretches, NONE);
                trial.exchange(i, j);
                if (waking < least) {
                    least = waking;
                    chosen = 10 * i + j;
                }
            }
        }
        if (chosen == NONE || what == 2) {
            return chosen;
        }
        return fraction(least, odds.whole, what);
    }

    // ---- a crossing

    public int carry(int seed, int what) {
        if (!isAnswerPart(what)) {
            return BAD;
        }
        crossing.cross(way, seed);
        switch (what) {
            case 0: return crossing.depthNow;
            case 1: return crossing.falls;
            default: return crossing.wokeOn;
        }
    }

    // ---- learnt

    public int learn(int i, int a, int b, int h) {
        if (!way.canHand(i, a, b) || h < 0 || h > OUT_OF) {
            return BAD;
        }
        return learnt.add(i, a, b, h) ? learnt.size : FULL;
    }

    public int forget(int n) {
        if (n < 0 || n > learnt.size) {
            return BAD;
        }
        int had = learnt.size;
        learnt.size = n;
        return had;
    }

    public int steps(int b, int what) {
        if (!way.hasBearer(b) || !isAnswerPart(what)) {
            return BAD;
        }
        trial.copyOf(way);
        int many = 0;
        int least = NONE;
        int greatest = NONE;
        for (int pace = 0; pace <= HIGHEST; pace++) {
            trial.paces[b] = pace;
            if (learnt.isSo(trial)) {
                many++;
                least = least == NONE ? pace : least;
                greatest = pace;
            }
        }
        if (what == 0) {
            return many;
        }
        return what == 1 ? least : greatest;
    }

    // ---- marked

    public int mark(int i, int d) {
        if (!way.hasStretch(i) || !isDepth(d)) {
            return BAD;
        }
        return marked.add(i, d) ? marked.size : FULL;
    }

    public int wipe(int n) {
        if (n < 0 || n > marked.size) {
            return BAD;
        }
        int had = marked.size;
        marked.size = n;
        return had;
    }

    public int paths() {
        trails.explore(way, marked);
        return trails.total;
    }

    public int eye(int d) {
        if (!isDepth(d)) {
            return BAD;
        }
        trails.explore(way, marked);
        int bits = 0;
        for (int i = 0; i < way.stretches; i++) {
            if (trails.canBeBehind(i, d)) {
                bits |= 1 << i;
            }
        }
        return bits;
    }

    public int sure(int what) {
        if (!isFractionPart(what)) {
            return BAD;
        }
        trails.explore(way, marked);
        if (trails.total == 0) {
            return NONE;
        }
        int bits = 0;
        for (int i = 0; i < way.stretches; i++) {
            int many = what == 0 ? trails.falling(way, i) : trails.rising(way, i);
            if (many == trails.total) {
                bits |= 1 << i;
            }
        }
        return bits;
    }

    // ---- images, sheets

    public int keep(int k) {
        if (!isImage(k)) {
            return BAD;
        }
        int was = kept[k] ? 1 : 0;
        images[k].copyOf(way);
        kept[k] = true;
        return was;
    }

    public int back(int k) {
        if (!isImage(k)) {
            return BAD;
        }
        if (!kept[k]) {
            return STATE;
        }
        way.copyOf(images[k]);
        return way.stretches;
    }

    public int sheet(int k, int lane, int n) {
        if (!Sheets.isSheet(k) || !Sheets.isLane(lane) || n > Sheets.MOST_CELLS) {
            return BAD;
        }
        if (n < 0) {
            return -10 - Sheets.SIZE;
        }
        sheets.renew(k, lane, n);
        return 1;
    }

    public int lay(int k, int i, int v) {
        if (!Sheets.isSheet(k)) {
            return BAD;
        }
        int found = sheets.faultAt(k, i);
        if (found != 0) {
            return -10 - found;
        }
        sheets.fill(k, i, v);
        return 1;
    }

    public int read(int k, int lane, int f, int n) {
        if (!Sheets.isSheet(k) || !Sheets.isLane(lane) || n < 0 || n > MOST_READ) {
            return BAD;
        }
        sheets.takePairs(k, lane, f, n);
        for (int p = 0; p < sheets.pairs; p++) {
            if (!way.hasStretch(sheets.firsts[p]) || !way.hasBearer(sheets.seconds[p])) {
                return -20 - p;
            }
        }
        for (int p = 0; p < sheets.pairs; p++) {
            way.order[sheets.firsts[p]] = sheets.seconds[p];
        }
        readFault = sheets.found;
        return sheets.pairs;
    }

    public int torn() {
        return readFault;
    }

    public int count(int what) {
        switch (what) {
            case 0: return learnt.size;
            case 1: return marked.size;
            case 2: return (kept[0] ? 1 : 0) + (kept[1] ? 1 : 0);
            case 3: return reader.tape.length;
            case 4: return sheets.sizeOf(0);
            case 5: return way.handOvers();
            default: return BAD;
        }
    }

    // ---- what numbers may be, fractions

    private static boolean isFractionPart(int what) {
        return what == 0 || what == 1;
    }

    private static boolean isAnswerPart(int what) {
        return what >= 0 && what <= 2;
    }

    private static boolean isDepth(int d) {
        return d >= 0 && d <= DEEPEST;
    }

    private static boolean isImage(int k) {
        return k >= 0 && k < MOST_IMAGES;
    }

    private static long fraction(long part, long whole, int what) {
        long common = commonDivisor(part, whole);
        if (common == 0) {
            return BAD;
        }
        return (what == 0 ? part : whole) / common;
    }

    private static long commonDivisor(long one, long other) {
        long a = one;
        long b = other;
        // Euclid on numbers up to 20 to the 10th needs some 70 turns at most.
        for (int turn = 0; turn < 200 && b != 0; turn++) {
            long rest = a % b;
            a = b;
            b = rest;
        }
        return a;
    }

    /** STRETCHES, BEARERS, START and THE ORDER: what a text tells and an IMAGE keeps. */
    private static final class Way {
        private int stretches;
        private int bearers;
        private int startDepth = FIRST_START;
        private final int[] noises = new int[MOST_STRETCHES];
        private final int[] colds = new int[MOST_STRETCHES];
        private final int[] order = new int[MOST_STRETCHES];
        private final int[] kinds = new int[MOST_BEARERS];
        private final int[] paces = new int[MOST_BEARERS];
        private final int[] warmths = new int[MOST_BEARERS];

        private void clear() {
            stretches = 0;
            bearers = 0;
            startDepth = FIRST_START;
            for (int i = 0; i < MOST_STRETCHES; i++) {
                order[i] = 0;
            }
        }

        private void copyOf(Way other) {
            stretches = other.stretches;
            bearers = other.bearers;
            startDepth = other.startDepth;
            System.arraycopy(other.noises, 0, noises, 0, MOST_STRETCHES);
            System.arraycopy(other.colds, 0, colds, 0, MOST_STRETCHES);
            System.arraycopy(other.order, 0, order, 0, MOST_STRETCHES);
            System.arraycopy(other.kinds, 0, kinds, 0, MOST_BEARERS);
            System.arraycopy(other.paces, 0, paces, 0, MOST_BEARERS);
            System.arraycopy(other.warmths, 0, warmths, 0, MOST_BEARERS);
        }

        private boolean hasStretch(int i) {
            return i >= 0 && i < stretches;
        }

        private boolean hasBearer(int b) {
            return b >= 0 && b < bearers;
        }

        private void addStretch(int noise, int cold) {
            if (stretches < MOST_STRETCHES) {
                noises[stretches] = noise;
                colds[stretches] = cold;
                stretches++;
            }
        }

        private void addBearer(int kind, int pace, int warmth) {
            if (bearers < MOST_BEARERS) {
                kinds[bearers] = kind;
                paces[bearers] = pace;
                warmths[bearers] = warmth;
                bearers++;
            }
        }

        private boolean canHand(int i, int a, int b) {
            return hasStretch(i) && (a == NONE || hasBearer(a)) && hasBearer(b);
        }

        private int harmBy(int i, int a, int b) {
            if (!canHand(i, a, b)) {
                return 0;
            }
            return Math.min(OUT_OF, noiseBy(i, b) + coldBy(i, b) + joltBy(a, b));
        }

        private int noiseBy(int i, int b) {
            int less = kinds[b] == HUMMER ? 2 : kinds[b] == TALL ? 1 : 0;
            return Math.max(0, noises[i] - less);
        }

        private int coldBy(int i, int b) {
            int more = kinds[b] == TREMBLER && colds[i] >= 5 ? 1 : 0;
            return Math.max(0, colds[i] - warmths[b]) + more;
        }

        private int joltBy(int a, int b) {
            if (a == NONE || a == b || kinds[a] == TWIN && kinds[b] == TWIN) {
                return 0;
            }
            int apart = Math.abs(paces[a] - paces[b]);
            return kinds[b] == PAID ? apart / 2 : apart;
        }

        private int harmInOrder(int i) {
            if (!hasStretch(i)) {
                return 0;
            }
            return harmBy(i, i == 0 ? NONE : order[i - 1], order[i]);
        }

        private void exchange(int i, int j) {
            if (hasStretch(i) && hasStretch(j)) {
                int b = order[i];
                order[i] = order[j];
                order[j] = b;
            }
        }

        private int handOvers() {
            int many = 0;
            for (int i = 1; i < stretches; i++) {
                if (order[i] != order[i - 1]) {
                    many++;
                }
            }
            return many;
        }
    }

    /** THE TAPE. */
    private static final class Tape {
        private static final int MOST_BYTES = 320;

        private int length;
        private final int[] bytes = new int[MOST_BYTES];

        private boolean addBytes(long v) {
            if (length < 0 || length + 8 > MOST_BYTES) {
                return false;
            }
            for (int shift = 56; shift >= 0; shift -= 8) {
                bytes[length] = (int) (v >>> shift & 255);
                length++;
            }
            return true;
        }

        /** The byte at a place, 0 (which no TOKEN has) where there is none. */
        private int byteAt(int place) {
            return place >= 0 && place < length ? bytes[place] : 0;
        }

        private boolean says(int from, int to, String word) {
            if (from < 0 || to > length || to - from != word.length()) {
                return false;
            }
            for (int p = 0; p < word.length(); p++) {
                if (bytes[from + p] != word.charAt(p)) {
                    return false;
                }
            }
            return true;
        }

        /** The first place from one on whose byte is not within the bounds. */
        private int pastAll(int from, char low, char high) {
            int at = from;
            while (at >= 0 && at < length && bytes[at] >= low && bytes[at] <= high) {
                at++;
            }
            return at;
        }
    }

    /** Reads THE TAPE into a Way, up to the first FAULT. */
    private static final class Reader {
        private static final int END = 0;
        private static final int NAME = 1;
        private static final int NUMBER = 2;
        private static final int STOP = 3;

        private static final int NO_TOKEN = 1;
        private static final int MISPLACED = 2;
        private static final int OUT_OF_BOUNDS = 3;
        private static final int TWICE = 4;
        private static final int TOO_MANY = 5;
        private static final int NOT_THERE = 6;
        private static final int NO_BEARERS = 7;

        private final Tape tape = new Tape();
        private final Way told = new Way();
        private int found;
        private int place;
        private int lines;
        private int token;
        private int first;
        private int past;
        private boolean startTold;
        private int carried;
        private int furthestStretch;
        private int furthestBearer;

        private void readAll() {
            begin();
            nextToken();
            // Each turn takes at least one byte or meets a FAULT.
            for (int turn = 0; turn <= tape.length && found == 0 && token != END; turn++) {
                if (readLine()) {
                    lines++;
                    nextToken();
                }
            }
            if (found == 0) {
                lookBehindAll();
            }
        }

        private void begin() {
            told.clear();
            found = 0;
            place = 0;
            lines = 0;
            past = 0;
            startTold = false;
            carried = 0;
            furthestStretch = NONE;
            furthestBearer = NONE;
        }

        private boolean refuse(int fault, int at) {
            // The first FAULT met is the one that is told.
            if (found == 0) {
                found = fault;
                place = at;
            }
            return false;
        }

        /** Whether a TOKEN, or the end, was read. */
        private boolean nextToken() {
            first = tape.pastAll(past, ' ', ' ');
            past = first;
            int sign = tape.byteAt(first);
            if (first >= tape.length) {
                token = END;
            } else if (sign >= 'a' && sign <= 'z') {
                token = NAME;
                past = tape.pastAll(first, 'a', 'z');
            } else if (sign >= '0' && sign <= '9') {
                token = NUMBER;
                past = tape.pastAll(first, '0', '9');
                return past - first <= 2 || refuse(NO_TOKEN, first);
            } else if (sign == ';') {
                token = STOP;
                past = first + 1;
            } else {
                return refuse(NO_TOKEN, first);
            }
            return true;
        }

        private boolean isName(String word) {
            return token == NAME && tape.says(first, past, word);
        }

        private boolean readLine() {
            if (isName("start")) {
                return readStart();
            }
            if (isName("stretch")) {
                return readStretch();
            }
            if (isName("bearer")) {
                return readBearer();
            }
            if (isName("carry")) {
                return readCarry();
            }
            return refuse(MISPLACED, first);
        }

        private boolean readStart() {
            if (startTold) {
                return refuse(TWICE, first);
            }
            startTold = true;
            if (!nextNumber(1, DEEPEST)) {
                return false;
            }
            told.startDepth = value();
            return nextStop();
        }

        private boolean readStretch() {
            if (told.stretches >= MOST_STRETCHES) {
                return refuse(TOO_MANY, first);
            }
            if (!nextNumber(0, HIGHEST)) {
                return false;
            }
            int noise = value();
            if (!nextNumber(0, HIGHEST)) {
                return false;
            }
            told.addStretch(noise, value());
            return nextStop();
        }

        private boolean readBearer() {
            if (told.bearers >= MOST_BEARERS) {
                return refuse(TOO_MANY, first);
            }
            if (!nextToken()) {
                return false;
            }
            int kind = kind();
            if (kind == NONE) {
                return refuse(MISPLACED, first);
            }
            if (!nextNumber(0, HIGHEST)) {
                return false;
            }
            int pace = value();
            if (!nextNumber(0, HIGHEST)) {
                return false;
            }
            told.addBearer(kind, pace, value());
            return nextStop();
        }

        private boolean readCarry() {
            if (!nextNumber(0, MOST_STRETCHES - 1)) {
                return false;
            }
            int i = value();
            if ((carried >> i & 1) == 1) {
                return refuse(TWICE, first);
            }
            carried |= 1 << i;
            if (!nextNumber(0, MOST_BEARERS - 1)) {
                return false;
            }
            int b = value();
            if (i >= 0 && i < MOST_STRETCHES) {
                told.order[i] = b;
            }
            furthestStretch = Math.max(furthestStretch, i);
            furthestBearer = Math.max(furthestBearer, b);
            return nextStop();
        }

        private int kind() {
            if (isName("plain")) {
                return 0;
            }
            if (isName("hummer")) {
                return HUMMER;
            }
            if (isName("trembler")) {
                return TREMBLER;
            }
            if (isName("tall")) {
                return TALL;
            }
            if (isName("twin")) {
                return TWIN;
            }
            return isName("paid") ? PAID : NONE;
        }

        private boolean nextNumber(int least, int greatest) {
            if (!nextToken()) {
                return false;
            }
            if (token != NUMBER) {
                return refuse(MISPLACED, first);
            }
            int v = value();
            return v >= least && v <= greatest || refuse(OUT_OF_BOUNDS, first);
        }

        private boolean nextStop() {
            return nextToken() && (token == STOP || refuse(MISPLACED, first));
        }

        private int value() {
            int v = 0;
            for (int p = first; p < past; p++) {
                v = v * 10 + tape.byteAt(p) - '0';
            }
            return v;
        }

        private void lookBehindAll() {
            if (furthestStretch >= told.stretches || furthestBearer >= told.bearers) {
                refuse(NOT_THERE, tape.length);
            } else if (told.stretches > 0 && told.bearers == 0) {
                refuse(NO_BEARERS, tape.length);
            }
        }
    }

    /** How likely each DEPTH is by THE ORDER: shares of a whole. */
    private static final class Odds {
        private long whole = 1;
        private final long[] shares = new long[DEPTHS];
        private final long[] ahead = new long[DEPTHS];

        /** The share of being awake behind the first STRETCHES, with a DROP ahead of one (NONE: of none). */
        private long waking(Way way, int many, int dropAt) {
            begin(way.startDepth);
            for (int i = 0; i < many; i++) {
                if (i == dropAt) {
                    deepen();
                }
                pass(way.harmInOrder(i));
            }
            return shares[0];
        }

        private void begin(int depthAtFirst) {
            whole = 1;
            for (int d = 0; d < DEPTHS; d++) {
                shares[d] = d == depthAtFirst ? 1 : 0;
            }
        }

        private void takeAhead() {
            for (int d = 0; d < DEPTHS; d++) {
                ahead[d] = shares[d];
                shares[d] = 0;
            }
        }

        private void pass(int harmed) {
            takeAhead();
            whole *= OUT_OF;
            shares[0] = ahead[0] * OUT_OF;
            for (int d = 1; d < DEPTHS; d++) {
                shares[d - 1] += ahead[d] * harmed;
                shares[Math.min(DEEPEST, d + 1)] += ahead[d] * (OUT_OF - harmed);
            }
        }

        private void deepen() {
            takeAhead();
            shares[0] = ahead[0];
            for (int d = 1; d < DEPTHS; d++) {
                shares[Math.min(DEEPEST, d + 2)] += ahead[d];
            }
        }
    }

    /** THE BEST, from the last STRETCH back. */
    private static final class Choice {
        private static final int SLOTS = (MOST_BEARERS + 1) * DEPTHS;
        private static final long MORE_THAN_ALL = 1L << 60;

        private long whole = 1;
        private final long[][] waking = new long[MOST_STRETCHES + 1][SLOTS];
        private final int[][] chosen = new int[MOST_STRETCHES][SLOTS];

        /** The slot of whoever carried before (NONE: nobody) and a DEPTH. */
        private static int slot(int a, int d) {
            return (a == NONE ? 0 : a + 1) * DEPTHS + d;
        }

        private void plan(Way way, int leftOut) {
            whole = 1;
            for (int s = 0; s < SLOTS; s++) {
                waking[way.stretches][s] = s % DEPTHS == 0 ? 1 : 0;
            }
            for (int i = way.stretches - 1; i >= 0; i--) {
                whole *= OUT_OF;
                chooseFrom(way, i, NONE, leftOut);
                for (int a = 0; a < way.bearers; a++) {
                    chooseFrom(way, i, a, leftOut);
                }
            }
        }

        private void chooseFrom(Way way, int i, int a, int leftOut) {
            waking[i][slot(a, 0)] = whole;
            for (int d = 1; d < DEPTHS; d++) {
                waking[i][slot(a, d)] = MORE_THAN_ALL;
            }
            for (int b = 0; b < way.bearers; b++) {
                if (b != leftOut) {
                    weigh(i, a, b, way.harmBy(i, a, b));
                }
            }
        }

        private void weigh(int i, int a, int b, int harmed) {
            for (int d = 1; d < DEPTHS; d++) {
                long fallen = waking[i + 1][slot(b, d - 1)];
                long risen = waking[i + 1][slot(b, Math.min(DEEPEST, d + 1))];
                long odds = fallen * harmed + risen * (OUT_OF - harmed);
                // A later BEARER must be better, not as good: of several the least is THE BEST.
                if (odds < waking[i][slot(a, d)]) {
                    waking[i][slot(a, d)] = odds;
                    chosen[i][slot(a, d)] = b;
                }
            }
        }

        private long wakingAtFirst(Way way) {
            return waking[0][slot(NONE, way.startDepth)];
        }
    }

    /** A CROSSING by a seed. */
    private static final class Crossing {
        private int depthNow;
        private int falls;
        private int wokeOn;

        private void cross(Way way, int seed) {
            depthNow = way.startDepth;
            falls = 0;
            wokeOn = NONE;
            int drawn = seed;
            for (int i = 0; i < way.stretches && depthNow > 0; i++) {
                drawn = drawn * 1103515245 + 12345;
                if ((drawn >> 16 & 32767) % OUT_OF < way.harmInOrder(i)) {
                    depthNow--;
                    falls++;
                } else {
                    depthNow = Math.min(DEEPEST, depthNow + 1);
                }
                if (depthNow == 0) {
                    wokeOn = i;
                }
            }
        }
    }

    /** What was LEARNT. */
    private static final class Learnt {
        private static final int MOST = 8;

        private int size;
        private final int[] stretchOf = new int[MOST];
        private final int[] giverOf = new int[MOST];
        private final int[] takerOf = new int[MOST];
        private final int[] harmOf = new int[MOST];

        private boolean add(int i, int a, int b, int h) {
            if (size < 0 || size >= MOST) {
                return false;
            }
            stretchOf[size] = i;
            giverOf[size] = a;
            takerOf[size] = b;
            harmOf[size] = h;
            size++;
            return true;
        }

        private boolean isSo(Way way) {
            for (int n = 0; n < size; n++) {
                if (way.harmBy(stretchOf[n], giverOf[n], takerOf[n]) != harmOf[n]) {
                    return false;
                }
            }
            return true;
        }
    }

    /** What was MARKED. */
    private static final class Marked {
        private static final int MOST = 6;

        private int size;
        private final int[] stretchOf = new int[MOST];
        private final int[] depthOf = new int[MOST];

        private boolean add(int i, int d) {
            if (size < 0 || size >= MOST) {
                return false;
            }
            stretchOf[size] = i;
            depthOf[size] = d;
            size++;
            return true;
        }

        private boolean allows(int i, int d) {
            for (int n = 0; n < size; n++) {
                if (stretchOf[n] == i && depthOf[n] != d) {
                    return false;
                }
            }
            return true;
        }
    }

    /**
     * PATHS, counted, not listed: into[i][d] tells how many ways lead to DEPTH d ahead of STRETCH i,
     * onward[i][d] how many lead on from there to the end; row i + 1 is thus what stands behind STRETCH i.
     */
    private static final class Trails {
        private int total;
        private final int[][] into = new int[MOST_STRETCHES + 1][DEPTHS];
        private final int[][] onward = new int[MOST_STRETCHES + 1][DEPTHS];

        private void explore(Way way, Marked marked) {
            for (int d = 0; d < DEPTHS; d++) {
                into[0][d] = d == way.startDepth ? 1 : 0;
                onward[way.stretches][d] = 1;
            }
            for (int i = 0; i < way.stretches; i++) {
                leadInto(way.harmInOrder(i), i);
                dropUnmarked(into[i + 1], marked, i);
            }
            for (int i = way.stretches - 1; i >= 0; i--) {
                dropUnmarked(onward[i + 1], marked, i);
                leadOnward(way.harmInOrder(i), i);
            }
            total = onward[0][way.startDepth];
        }

        private static void dropUnmarked(int[] row, Marked marked, int i) {
            for (int d = 0; d < row.length; d++) {
                if (!marked.allows(i, d)) {
                    row[d] = 0;
                }
            }
        }

        private void leadInto(int harmed, int i) {
            for (int d = 0; d < DEPTHS; d++) {
                into[i + 1][d] = 0;
            }
            into[i + 1][0] = into[i][0];
            for (int d = 1; d < DEPTHS; d++) {
                if (harmed > 0) {
                    into[i + 1][d - 1] += into[i][d];
                }
                if (harmed < OUT_OF) {
                    into[i + 1][Math.min(DEEPEST, d + 1)] += into[i][d];
                }
            }
        }

        private void leadOnward(int harmed, int i) {
            onward[i][0] = onward[i + 1][0];
            for (int d = 1; d < DEPTHS; d++) {
                int fallen = harmed > 0 ? onward[i + 1][d - 1] : 0;
                int risen = harmed < OUT_OF ? onward[i + 1][Math.min(DEEPEST, d + 1)] : 0;
                onward[i][d] = fallen + risen;
            }
        }

        private boolean canBeBehind(int i, int d) {
            return into[i + 1][d] > 0 && onward[i + 1][d] > 0;
        }

        private int falling(Way way, int i) {
            if (way.harmInOrder(i) == 0) {
                return 0;
            }
            int many = 0;
            for (int d = 1; d < DEPTHS; d++) {
                many += into[i][d] * onward[i + 1][d - 1];
            }
            return many;
        }

        private int rising(Way way, int i) {
            if (way.harmInOrder(i) == OUT_OF) {
                return 0;
            }
            int many = 0;
            for (int d = 1; d < DEPTHS; d++) {
                many += into[i][d] * onward[i + 1][Math.min(DEEPEST, d + 1)];
            }
            return many;
        }
    }

    /** SHEETS, and the FAULTS that the machine would find in them. */
    private static final class Sheets {
        private static final int MOST = 4;
        private static final int MOST_CELLS = 40;
        private static final int NOTHING = -1;
        private static final int BYTES = 0;
        private static final int SHORTS = 1;
        private static final int INTS = 2;

        private static final int NULL = 1;
        private static final int INDEX = 2;
        private static final int CAST = 3;
        private static final int SIZE = 4;

        private final int[] lanes = {NOTHING, NOTHING, NOTHING, NOTHING};
        private final int[] sizes = new int[MOST];
        private final int[][] cells = new int[MOST][MOST_CELLS];
        private int found;
        private int pairs;
        private final int[] firsts = new int[MOST_READ];
        private final int[] seconds = new int[MOST_READ];

        private static boolean isSheet(int k) {
            return k >= 0 && k < MOST;
        }

        private static boolean isLane(int lane) {
            return lane >= BYTES && lane <= INTS;
        }

        private void renew(int k, int lane, int n) {
            if (!isSheet(k) || n < 0 || n > MOST_CELLS) {
                return;
            }
            lanes[k] = lane;
            sizes[k] = n;
            for (int i = 0; i < n; i++) {
                cells[k][i] = 0;
            }
        }

        private int sizeOf(int k) {
            return lanes[k] == NOTHING ? NONE : sizes[k];
        }

        private int faultAt(int k, long i) {
            if (lanes[k] == NOTHING) {
                return NULL;
            }
            return i < 0 || i >= sizes[k] ? INDEX : 0;
        }

        private void fill(int k, int i, int v) {
            if (faultAt(k, i) == 0) {
                cells[k][i] = lanes[k] == BYTES ? (byte) v : lanes[k] == SHORTS ? (short) v : v;
            }
        }

        /** Takes the pairs that are whole ahead of the first FAULT. */
        private void takePairs(int k, int lane, int f, int n) {
            pairs = 0;
            found = lanes[k] == NOTHING || lanes[k] == lane ? 0 : CAST;
            for (int p = 0; p < n && p < MOST_READ && found == 0; p++) {
                // A long, since f may stand at the end of all ints.
                long at = f + 2L * p;
                found = faultAt(k, at);
                if (found == 0) {
                    found = faultAt(k, at + 1);
                }
                if (found == 0) {
                    firsts[p] = cells[k][(int) at];
                    seconds[p] = cells[k][(int) at + 1];
                    pairs++;
                }
            }
        }
    }
}
