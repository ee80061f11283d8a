/**
 * Two ropes, four dancers who hold an end each, and a fraction that says how the ropes are wound.
 *
 * Orders of dancers, kinds and rows of figures are held as bits of one int each: a stand is then
 * copied field by field, and no index into a row of them can ever be out of bounds.
 */
public final class RopeDance {
    public static final int BAD = -1, NO = -2, FULL = -3, NONE = -4;
    public static final int WRONG = -100000, NOTHING = -100001;

    private static final int DANCERS = 4;
    private static final int KINDS = 6;
    private static final int CROSS = 1, LAZY = 2, EAGER = 3, SHY = 4, STUBBORN = 5;
    private static final int TWIST = 0, BACK = 1, TURN = 2, REST = 3;

    private static final int MOST_LETTERS = 200;
    private static final int MOST_FIGURES = 12;
    private static final int MOST_UNDONE = 8;
    private static final int MOST_KEPT = 2;
    private static final int MOST_SEEN = 6;
    private static final int MOST_TOLD = 99;
    private static final int TIGHTEST = 9999;

    private static final int DEEPEST = 7;
    private static final int LONGEST_DUEL = 5;
    private static final int LONGEST_PLAIN_WAY = 60;
    private static final int LONGEST_EVENING = 60;
    private static final int LAST_EVENING = 9999;
    private static final int TENTHS = 10;
    /** Far more than two ints can need. */
    private static final int MOST_DIVISIONS = 100;
    private static final int ALL_PLAIN = 0;

    /** No fraction has these codes, so that rows that are TOO TIGHT are alike, and like nothing else. */
    private static final int TIGHT_CODE = 1000000000, LEFT_OUT = 1000000001;

    private static final String FIRST_TEXT = "d1,1;d2,3;d3,2;r0;r0;r2;r1;r2;";

    private final Script script = new Script();
    private final Stand now = new Stand();
    private final Stand trial = new Stand();
    private final Pile past = new Pile(MOST_UNDONE);
    private final Pile shelf = new Pile(MOST_KEPT);
    private final Search search = new Search();
    private final int[] seenRows = new int[MOST_SEEN];
    private final int[] seenU = new int[MOST_SEEN];
    private final int[] seenL = new int[MOST_SEEN];
    private final int[] codes = new int[KINDS];
    private int seenCount;
    private int ownKinds;
    private int figures;
    private int figureCount;

    public RopeDance() {
        for (int i = 0; i < FIRST_TEXT.length(); i++) {
            script.add(FIRST_TEXT.charAt(i));
        }
        if (script.tellsDance()) {
            takeScript();
        }
        script.clear();
    }

    // ---- dances

    public int write(int letter) {
        if (letter < 32 || letter > 126) {
            return BAD;
        }
        return script.add(letter) ? script.length : FULL;
    }

    public int wipe() {
        int before = script.length;
        script.clear();
        return before;
    }

    public int fault() {
        return script.firstFault();
    }

    public int lay() {
        if (!script.tellsDance()) {
            return NO;
        }
        takeScript();
        return figureCount;
    }

    public int dancer(int i, int what) {
        if (!isDancer(i) || what < 0 || what > 2) {
            return BAD;
        }
        if (what == 0) {
            return kindOf(ownKinds, i);
        }
        return what == 1 ? now.placeOf(i) : now.ropeOf(i);
    }

    public int place(int p, int what) {
        if (p < 0 || p >= DANCERS || what < 0 || what > 1) {
            return BAD;
        }
        int who = now.whoAt(p);
        return what == 0 ? who : now.ropeOf(who);
    }

    public int wound(int what) {
        if (what < 0 || what > 1) {
            return WRONG;
        }
        return what == 0 ? now.u : now.l;
    }

    public int row(int k) {
        if (k < 0 || k >= MOST_FIGURES) {
            return BAD;
        }
        return k < figureCount ? pairAt(figures, k) : NONE;
    }

    // ---- deeds

    public int dance(int figure) {
        if (figure < TWIST || figure > REST) {
            return BAD;
        }
        int twists = now.twistsOf(figure, ownKinds);
        if (now.isTooTight(twists)) {
            return NO;
        }
        past.push(now);
        now.step(figure, ownKinds);
        return 10 + twists;
    }

    public int put(int i, int j) {
        if (!areTwo(i, j)) {
            return BAD;
        }
        past.push(now);
        now.exchange(i, j);
        return now.placeOf(i);
    }

    public int undo() {
        return past.pop(now) ? past.size : NO;
    }

    // ---- what comes

    public int free(int k) {
        if (!isRowIndex(k)) {
            return BAD;
        }
        search.aimAtWound(0, 1);
        return figureOfFewest(k);
    }

    public int reach(int u, int l, int k) {
        if (!isFraction(u, l) || !isRowIndex(k)) {
            return BAD;
        }
        search.aimAtWound(u, l);
        return figureOfFewest(k);
    }

    public int meet(int i, int j, int k) {
        if (!areTwo(i, j) || !isRowIndex(k)) {
            return BAD;
        }
        search.aimAtMeeting(i, j);
        return figureOfFewest(k);
    }

    public int ways(int n) {
        if (n < 0 || n > DEEPEST) {
            return BAD;
        }
        search.aimAtWound(0, 1);
        search.startFrom(now, ownKinds);
        return Search.rowsFrom(search, 0, n);
    }

    public int plain() {
        trial.take(now);
        for (int done = 0; done <= LONGEST_PLAIN_WAY; done++) {
            if (trial.u == 0) {
                return done;
            }
            if (!trial.step(trial.u < 0 ? TWIST : TURN, ownKinds)) {
                return NONE;
            }
        }
        return NONE;
    }

    public int comes(int what) {
        if (what < 0 || what > 1) {
            return BAD;
        }
        tryRow(MOST_FIGURES, ownKinds);
        return what == 0 ? trial.beats - now.beats : trial.whoAt(0);
    }

    public int behind(int n, int what) {
        if (!isRowLength(n) || what < 0 || what > 1) {
            return WRONG;
        }
        if (!tryRow(n, ownKinds)) {
            return NOTHING;
        }
        return what == 0 ? trial.u : trial.l;
    }

    // ---- which it was

    public int see(int n, int u, int l) {
        if (!isRowLength(n) || !isFraction(u, l)) {
            return BAD;
        }
        if (seenCount >= MOST_SEEN) {
            return FULL;
        }
        seenRows[seenCount] = n;
        seenU[seenCount] = u;
        seenL[seenCount] = l;
        seenCount++;
        return seenCount;
    }

    public int forget() {
        int before = seenCount;
        seenCount = 0;
        return before;
    }

    public int kinds(int i) {
        return isDancer(i) ? possibleKinds(i) : BAD;
    }

    public int look(int i, int what) {
        if (!isDancer(i) || what < 0 || what > 1) {
            return BAD;
        }
        int possible = possibleKinds(i);
        if (Integer.bitCount(possible) <= 1) {
            return NONE;
        }
        int bestLength = 0;
        int leastPart = KINDS + 1;
        for (int n = 1; n <= MOST_FIGURES; n++) {
            int part = greatestPart(i, possible, n);
            if (part < leastPart) {
                leastPart = part;
                bestLength = n;
            }
        }
        return what == 0 ? bestLength : leastPart;
    }

    public int danced(int n) {
        if (n < 0 || n > DEEPEST) {
            return BAD;
        }
        // For PLAIN dancers WOUND does not depend on who stands where: any order serves as the laid one.
        trial.begin(now.order);
        search.aimAtWound(now.u, now.l);
        search.startFrom(trial, ALL_PLAIN);
        return Search.rowsFrom(search, 0, n);
    }

    // ---- turns, chances, evenings

    public int duel(int n) {
        if (n < 0 || n > LONGEST_DUEL) {
            return BAD;
        }
        search.startFrom(now, ownKinds);
        return Search.bestFrom(search, 0, n);
    }

    public int odds(int n, int x, int part) {
        if (n < 0 || n > DEEPEST || x < 0 || x > TENTHS || part < 0 || part > 1) {
            return BAD;
        }
        int length = Math.min(n, figureCount);
        search.aimAtWound(0, 1);
        search.startFrom(now, ownKinds);
        int above = Search.chanceFrom(search, 0, length, figures, x);
        int below = 1;
        for (int i = 0; i < length; i++) {
            below *= TENTHS;
        }
        int common = commonDivisor(above, below);
        if (common == 0) {
            return BAD;
        }
        return (part == 0 ? above : below) / common;
    }

    public int evening(int z, int n, int what) {
        if (z < 0 || z > LAST_EVENING || n < 1 || n > LONGEST_EVENING || what < 0 || what > 2) {
            return BAD;
        }
        trial.take(now);
        int zeros = 0;
        int tights = 0;
        for (int k = 0; k < n; k++) {
            int draw = drawOf(z, k);
            if (!trial.step(draw % 4, ownKinds)) {
                tights++;
                trial.step(REST, ownKinds);
            }
            if (draw / 4 % 8 == 0) {
                trial.exchange(trial.whoAt(0), trial.whoAt(2));
            }
            if (trial.u == 0) {
                zeros++;
            }
        }
        if (what == 0) {
            return zeros;
        }
        return what == 1 ? tights : trial.whoAt(0);
    }

    // ---- kept

    public int keep() {
        if (shelf.isFull()) {
            return FULL;
        }
        shelf.push(now);
        return shelf.size;
    }

    public int back() {
        if (!shelf.pop(now)) {
            return NO;
        }
        past.clear();
        return shelf.size;
    }

    public int count(int what) {
        switch (what) {
            case 0: return figureCount;
            case 1: return now.beats;
            case 2: return now.last < 0 ? 2 : now.last;
            case 3: return past.size;
            case 4: return shelf.size;
            case 5: return seenCount;
            case 6: return script.length;
            default: return BAD;
        }
    }

    // ---- what the calls share

    private void takeScript() {
        ownKinds = script.kindBits;
        figures = script.figureBits;
        figureCount = script.figureCount;
        now.begin(script.orderBits());
        seenCount = 0;
        past.clear();
        shelf.clear();
    }

    private int figureOfFewest(int k) {
        search.startFrom(now, ownKinds);
        Search.seek(search, 0, 0);
        if (!search.isFound() || k >= search.fewest) {
            return NONE;
        }
        return k < 0 ? search.fewest : pairAt(search.fewestRow, k);
    }

    /** False if a figure is TOO TIGHT; trial then stands as it is ahead of that one. */
    private boolean tryRow(int n, int kindBits) {
        trial.take(now);
        int length = Math.min(n, figureCount);
        for (int k = 0; k < length; k++) {
            if (!trial.step(pairAt(figures, k), kindBits)) {
                return false;
            }
        }
        return true;
    }

    private int possibleKinds(int i) {
        int possible = 0;
        for (int kind = 0; kind < KINDS; kind++) {
            if (explainsSeen(withKind(ownKinds, i, kind))) {
                possible |= 1 << kind;
            }
        }
        return possible;
    }

    private boolean explainsSeen(int kindBits) {
        for (int s = 0; s < seenCount && s < MOST_SEEN; s++) {
            if (!tryRow(seenRows[s], kindBits) || !trial.isWoundAs(seenU[s], seenL[s])) {
                return false;
            }
        }
        return true;
    }

    private int greatestPart(int i, int possible, int n) {
        int greatest = 0;
        for (int kind = 0; kind < KINDS; kind++) {
            int code = tryRow(n, withKind(ownKinds, i, kind)) ? trial.woundCode() : TIGHT_CODE;
            codes[kind] = (possible >> kind & 1) == 1 ? code : LEFT_OUT;
        }
        for (int kind = 0; kind < KINDS; kind++) {
            greatest = Math.max(greatest, partOf(codes[kind]));
        }
        return greatest;
    }

    private int partOf(int code) {
        if (code == LEFT_OUT) {
            return 0;
        }
        int alike = 0;
        for (int kind = 0; kind < KINDS; kind++) {
            if (codes[kind] == code) {
                alike++;
            }
        }
        return alike;
    }

    private static int drawOf(int z, int k) {
        long x = 7919L * z + 6151L * k + 1;
        return (int) (x * x % 65521);
    }

    private static boolean isDancer(int i) {
        return i >= 0 && i < DANCERS;
    }

    private static boolean areTwo(int i, int j) {
        return isDancer(i) && isDancer(j) && i != j;
    }

    private static boolean isRowIndex(int k) {
        return k >= -1 && k < DEEPEST;
    }

    private static boolean isRowLength(int n) {
        return n >= 0 && n <= MOST_FIGURES;
    }

    private static boolean isFraction(int u, int l) {
        if (l == 0) {
            return u == 1;
        }
        return u >= -MOST_TOLD && u <= MOST_TOLD && l >= 1 && l <= MOST_TOLD
                && commonDivisor(Math.abs(u), l) == 1;
    }

    private static int commonDivisor(int a, int b) {
        int greater = a;
        int less = b;
        for (int steps = 0; steps < MOST_DIVISIONS && less != 0; steps++) {
            int rest = greater % less;
            greater = less;
            less = rest;
        }
        return greater;
    }

    private static int pairAt(int bits, int index) {
        return bits >> 2 * index & 3;
    }

    private static int kindOf(int kindBits, int i) {
        return kindBits >> 3 * i & 7;
    }

    private static int withKind(int kindBits, int i, int kind) {
        return kindBits & ~(7 << 3 * i) | kind << 3 * i;
    }

    /** How all stands: all that a figure or a PUT can change. */
    private static final class Stand {
        private static final int IN_ORDER = 0b11100100;
        private static final int ALL_ORDER_BITS = 0xFF;

        /** Two bits a place: who stands there. */
        int order = IN_ORDER;
        /** A bit a dancer: which rope. */
        int ropes;
        int u;
        int l = 1;
        /** What was done last: 1 TWIST, -1 BACK, 0 nothing yet. */
        int last;
        int beats;

        void begin(int firstOrder) {
            order = firstOrder;
            ropes = 1 << whoAt(2) | 1 << whoAt(3);
            u = 0;
            l = 1;
            last = 0;
            beats = 0;
        }

        void take(Stand other) {
            order = other.order;
            ropes = other.ropes;
            u = other.u;
            l = other.l;
            last = other.last;
            beats = other.beats;
        }

        int whoAt(int p) {
            return order >> 2 * p & 3;
        }

        int placeOf(int i) {
            for (int p = 0; p < DANCERS; p++) {
                if (whoAt(p) == i) {
                    return p;
                }
            }
            return BAD;
        }

        int ropeOf(int i) {
            return ropes >> i & 1;
        }

        /** How many TWISTs a told figure becomes by who leads now; a BACK is one less than none. */
        int twistsOf(int figure, int kindBits) {
            if (figure != TWIST && figure != BACK) {
                return 0;
            }
            int told = figure == TWIST ? 1 : -1;
            int leader = whoAt(1);
            switch (kindOf(kindBits, leader)) {
                case CROSS: return -told;
                case LAZY: return beats % 2 == 0 ? told : 0;
                case EAGER: return 2 * told;
                case SHY: return ropeOf(leader) == ropeOf(whoAt(2)) ? 0 : told;
                case STUBBORN: return last == 0 ? told : last;
                default: return told;
            }
        }

        boolean isWoundAs(int otherU, int otherL) {
            return u == otherU && l == otherL;
        }

        /** One number for U and L together, another one for each fraction. */
        int woundCode() {
            return u * (TIGHTEST + 1) + l;
        }

        boolean isTooTight(int twists) {
            return Math.abs(u + twists * l) > TIGHTEST;
        }

        /** False, and nothing has changed, if the figure is TOO TIGHT. */
        boolean step(int figure, int kindBits) {
            int twists = twistsOf(figure, kindBits);
            if (isTooTight(twists)) {
                return false;
            }
            if (figure == TURN) {
                turnAll();
            }
            // ENDLESS has l 0 and so stays as it is.
            u += twists * l;
            if (twists != 0) {
                last = twists > 0 ? 1 : -1;
            }
            if (twists % 2 != 0) {
                swapPlaces(1, 2);
            }
            beats++;
            return true;
        }

        void exchange(int i, int j) {
            int differs = ropeOf(i) ^ ropeOf(j);
            ropes ^= differs << i | differs << j;
            swapPlaces(placeOf(i), placeOf(j));
        }

        private void turnAll() {
            order = (order << 2 | order >> 2 * (DANCERS - 1)) & ALL_ORDER_BITS;
            int above = u;
            if (above == 0) {
                u = 1;
                l = 0;
            } else {
                u = above > 0 ? -l : l;
                l = Math.abs(above);
            }
        }

        private void swapPlaces(int p, int q) {
            int differs = (order >> 2 * p ^ order >> 2 * q) & 3;
            order ^= differs << 2 * p | differs << 2 * q;
        }
    }

    /** The latest stands, of which the oldest is given up when there are too many. */
    private static final class Pile {
        private final Stand[] stands;
        private int next;
        int size;

        Pile(int most) {
            stands = new Stand[Math.max(1, most)];
            for (int i = 0; i < stands.length; i++) {
                stands[i] = new Stand();
            }
        }

        boolean isFull() {
            return size >= stands.length;
        }

        void push(Stand stand) {
            if (next < 0 || next >= stands.length) {
                next = 0;
            }
            stands[next].take(stand);
            next++;
            size = Math.min(size + 1, stands.length);
        }

        boolean pop(Stand into) {
            if (size <= 0) {
                return false;
            }
            next = next > 0 && next <= stands.length ? next - 1 : stands.length - 1;
            into.take(stands[next]);
            size--;
            return true;
        }

        void clear() {
            size = 0;
        }
    }

    /** THE TEXT, and what was read from it when it was last found to tell a dance. */
    private static final class Script {
        private static final int NO_LETTER = 0;
        private static final int NOT_SO = -1;
        private static final int SHORT_ITEM = 3, LONG_ITEM = 5;

        private final byte[] letters = new byte[MOST_LETTERS];
        int length;
        int kindBits;
        int figureBits;
        int figureCount;
        /** Two bits a dancer: at which place at first. */
        private int placeBits;

        boolean add(int letter) {
            if (length < 0 || length >= letters.length) {
                return false;
            }
            letters[length] = (byte) letter;
            length++;
            return true;
        }

        void clear() {
            length = 0;
        }

        int firstFault() {
            int at = 0;
            int told = 0;
            for (int items = 0; items < MOST_LETTERS && at < length; items++) {
                int end = endOfItem(at);
                if (letterAt(at) == 'r') {
                    told++;
                }
                if (end == NOT_SO || told > MOST_FIGURES) {
                    return at;
                }
                at = end;
            }
            return NONE;
        }

        boolean tellsDance() {
            if (length == 0 || firstFault() != NONE) {
                return false;
            }
            readItems();
            return areApart();
        }

        int orderBits() {
            int order = 0;
            for (int i = 0; i < DANCERS; i++) {
                order |= i << 2 * pairAt(placeBits, i);
            }
            return order;
        }

        private boolean areApart() {
            int taken = 0;
            for (int i = 0; i < DANCERS; i++) {
                taken |= 1 << pairAt(placeBits, i);
            }
            return Integer.bitCount(taken) == DANCERS;
        }

        private void readItems() {
            kindBits = 0;
            figureBits = 0;
            figureCount = 0;
            placeBits = Stand.IN_ORDER;
            int at = 0;
            for (int items = 0; items < MOST_LETTERS && at < length; items++) {
                readItem(at);
                at += letterAt(at) == 'r' ? SHORT_ITEM : LONG_ITEM;
            }
        }

        private void readItem(int at) {
            int first = letterAt(at + 1) - '0';
            int second = letterAt(at + 3) - '0';
            switch (letterAt(at)) {
                case 'd':
                    kindBits = withKind(kindBits, first, second);
                    break;
                case 'p':
                    placeBits = placeBits & ~(3 << 2 * first) | second << 2 * first;
                    break;
                default:
                    figureBits |= first << 2 * figureCount;
                    figureCount++;
                    break;
            }
        }

        private int endOfItem(int at) {
            switch (letterAt(at)) {
                case 'd': return endOfPair(at, KINDS - 1);
                case 'p': return endOfPair(at, DANCERS - 1);
                case 'r': return isNumber(at + 1, REST) && letterAt(at + 2) == ';' ? at + SHORT_ITEM : NOT_SO;
                default: return NOT_SO;
            }
        }

        private int endOfPair(int at, int most) {
            boolean isSo = isNumber(at + 1, DANCERS - 1) && letterAt(at + 2) == ','
                    && isNumber(at + 3, most) && letterAt(at + 4) == ';';
            return isSo ? at + LONG_ITEM : NOT_SO;
        }

        private boolean isNumber(int at, int most) {
            int letter = letterAt(at);
            return letter >= '0' && letter <= '0' + most;
        }

        private int letterAt(int at) {
            return at >= 0 && at < length && at < letters.length ? letters[at] : NO_LETTER;
        }
    }

    /** Rows of figures tried out from one stand on, a level for each figure. */
    private static final class Search {
        private final Stand[] levels = new Stand[DEEPEST + 1];
        private int kindBits;
        private boolean forMeeting;
        private int goalU;
        private int goalL;
        private int oneDancer;
        private int otherDancer;
        int fewest;
        /** Two bits a figure, the first one lowest. */
        int fewestRow;

        Search() {
            for (int i = 0; i < levels.length; i++) {
                levels[i] = new Stand();
            }
        }

        void aimAtWound(int u, int l) {
            forMeeting = false;
            goalU = u;
            goalL = l;
        }

        void aimAtMeeting(int i, int j) {
            forMeeting = true;
            oneDancer = i;
            otherDancer = j;
        }

        void startFrom(Stand stand, int withKinds) {
            levels[0].take(stand);
            kindBits = withKinds;
            fewest = DEEPEST + 1;
            fewestRow = 0;
        }

        boolean isFound() {
            return fewest <= DEEPEST;
        }

        private boolean isAtGoal(int depth) {
            if (depth < 0 || depth >= levels.length) {
                return false;
            }
            Stand stand = levels[depth];
            if (forMeeting) {
                // Corners side by side differ by an odd number, corners across by 2.
                return (stand.placeOf(oneDancer) + stand.placeOf(otherDancer)) % 2 != 0;
            }
            return stand.isWoundAs(goalU, goalL);
        }

        /** False if the figure is TOO TIGHT; else the next level stands as it is behind it. */
        private boolean goOn(int depth, int figure) {
            if (depth < 0 || depth + 1 >= levels.length) {
                return false;
            }
            levels[depth + 1].take(levels[depth]);
            return levels[depth + 1].step(figure, kindBits);
        }

        private int greaterPart(int depth) {
            if (depth < 0 || depth >= levels.length) {
                return 0;
            }
            return Math.max(Math.abs(levels[depth].u), levels[depth].l);
        }

        /** Rows come in the order of their figures, so of the fewest the first one found is the first. */
        private static void seek(Search search, int depth, int row) {
            if (depth >= search.fewest || depth > DEEPEST) {
                return;
            }
            if (search.isAtGoal(depth)) {
                search.fewest = depth;
                search.fewestRow = row;
                return;
            }
            for (int figure = TWIST; figure <= TURN && depth + 1 < search.fewest; figure++) {
                if (search.goOn(depth, figure)) {
                    seek(search, depth + 1, row | figure << 2 * depth);
                }
            }
        }

        private static int rowsFrom(Search search, int depth, int n) {
            if (depth >= n || depth >= DEEPEST) {
                return search.isAtGoal(depth) ? 1 : 0;
            }
            int rows = 0;
            for (int figure = TWIST; figure <= TURN; figure++) {
                if (search.goOn(depth, figure)) {
                    rows += rowsFrom(search, depth + 1, n);
                }
            }
            return rows;
        }

        private static int bestFrom(Search search, int depth, int n) {
            if (depth >= n || depth >= DEEPEST) {
                return search.greaterPart(depth);
            }
            boolean winds = depth % 2 == 0;
            // A REST can always be chosen, so it gives the first value to beat.
            search.goOn(depth, REST);
            int best = bestFrom(search, depth + 1, n);
            if (search.goOn(depth, TURN)) {
                best = better(winds, best, bestFrom(search, depth + 1, n));
            }
            if (search.goOn(depth, winds ? TWIST : BACK)) {
                best = better(winds, best, bestFrom(search, depth + 1, n));
            }
            return best;
        }

        private static int better(boolean winds, int one, int other) {
            return winds ? Math.max(one, other) : Math.min(one, other);
        }

        /** The chance times ten for each figure that is left. */
        private static int chanceFrom(Search search, int depth, int n, int figureBits, int tenths) {
            if (depth >= n || depth >= DEEPEST) {
                return search.isAtGoal(depth) ? 1 : 0;
            }
            search.goOn(depth, REST);
            int forgotten = chanceFrom(search, depth + 1, n, figureBits, tenths);
            if (!search.goOn(depth, pairAt(figureBits, depth))) {
                search.goOn(depth, REST);
            }
            int remembered = chanceFrom(search, depth + 1, n, figureBits, tenths);
            return tenths * forgotten + (TENTHS - tenths) * remembered;
        }
    }
}
