import java.util.ArrayList;
import java.util.List;
import java.util.Random;

/**
 * Runs of calls by a fixed seed, each answer held against a second program that is written as the
 * document's words stand, by trying every row out whole.
 */
public final class OracleRuns {
    private static final int RUNS = 1500;
    private static final int CALLS = 300;
    private static int wrong = 0;
    private static long calls = 0;

    public static void main(String[] args) {
        for (int seed = 0; seed < RUNS && wrong < 20; seed++) {
            new OneRun(seed).go();
        }
        System.out.println(calls + " calls, " + wrong + " answers are not as due");
        if (wrong != 0) {
            System.exit(1);
        }
    }

    private static final class OneRun {
        final int seed;
        final Random random;
        final RopeDance x = new RopeDance();
        final Oracle o = new Oracle();
        final List<String> told = new ArrayList<>();

        OneRun(int seed) {
            this.seed = seed;
            this.random = new Random(seed);
        }

        void due(String call, int got, int want) {
            calls++;
            told.add(call + " = " + got);
            if (got != want) {
                wrong++;
                System.out.println("seed " + seed + ": " + call + " answered " + got + ", due is " + want);
                int from = Math.max(0, told.size() - 40);
                System.out.println("  behind " + told.subList(from, told.size()));
            }
        }

        int in(int low, int high) {
            return low + random.nextInt(high - low + 1);
        }

        /** Mostly as told, at times beside it. */
        int near(int low, int high) {
            int dice = random.nextInt(40);
            if (dice == 0) {
                return low - 1;
            }
            if (dice == 1) {
                return high + 1;
            }
            if (dice == 2) {
                return random.nextInt();
            }
            return in(low, high);
        }

        void write(String text) {
            for (char c : text.toCharArray()) {
                due("write(" + (int) c + ")", x.write(c), o.write(c));
            }
        }

        String danceText() {
            StringBuilder text = new StringBuilder();
            for (int i = 0; i < 4; i++) {
                if (in(0, 3) > 0) {
                    text.append('d').append(i).append(',').append(in(0, 5)).append(';');
                }
            }
            if (in(0, 1) == 0) {
                int a = in(0, 3);
                int b = (a + in(1, 3)) % 4;
                text.append('p').append(a).append(',').append(b).append(';');
                if (in(0, 6) > 0) {
                    text.append('p').append(b).append(',').append(a).append(';');
                }
            }
            int figures = in(0, 13);
            for (int i = 0; i < figures; i++) {
                text.append('r').append(in(0, 3)).append(';');
            }
            if (in(0, 9) == 0 && text.length() > 0) {
                text.setCharAt(in(0, text.length() - 1), "drp0123456,; ".charAt(in(0, 12)));
            }
            return text.toString();
        }

        void layAnew() {
            due("wipe()", x.wipe(), o.wipe());
            write(danceText());
            due("fault()", x.fault(), o.fault());
            due("lay()", x.lay(), o.lay());
        }

        void windUp() {
            int steps = in(5, 60);
            for (int i = 0; i < steps; i++) {
                int figure = i % 2 == 1 ? 2 : o.now.u >= 0 ? 0 : 1;
                due("dance(" + figure + ")", x.dance(figure), o.dance(figure));
            }
        }

        void go() {
            if (in(0, 9) > 0) {
                layAnew();
            }
            if (in(0, 2) == 0) {
                windUp();
            }
            for (int c = 0; c < CALLS && wrong < 20; c++) {
                any();
            }
        }

        void any() {
            switch (in(0, 32)) {
                case 0: { int a = near(32, 126); due("write(" + a + ")", x.write(a), o.write(a)); break; }
                case 1: if (in(0, 9) == 0) due("wipe()", x.wipe(), o.wipe()); break;
                case 2: due("fault()", x.fault(), o.fault()); break;
                case 3: if (in(0, 29) == 0) layAnew(); else if (in(0, 9) == 0) due("lay()", x.lay(), o.lay()); break;
                case 4: { int a = near(0, 3), b = near(0, 2);
                    due("dancer(" + a + "," + b + ")", x.dancer(a, b), o.dancer(a, b)); break; }
                case 5: { int a = near(0, 3), b = near(0, 1);
                    due("place(" + a + "," + b + ")", x.place(a, b), o.place(a, b)); break; }
                case 6: { int a = near(0, 1); due("wound(" + a + ")", x.wound(a), o.wound(a)); break; }
                case 7: { int a = near(0, 11); due("row(" + a + ")", x.row(a), o.row(a)); break; }
                case 8: case 9: case 10: { int a = near(0, 3);
                    due("dance(" + a + ")", x.dance(a), o.dance(a)); break; }
                case 11: { int a = near(0, 3), b = near(0, 3);
                    due("put(" + a + "," + b + ")", x.put(a, b), o.put(a, b)); break; }
                case 12: due("undo()", x.undo(), o.undo()); break;
                case 13: { int a = near(-1, 6); due("free(" + a + ")", x.free(a), o.free(a)); break; }
                case 14: reach(); break;
                case 15: { int a = near(0, 3), b = near(0, 3), k = near(-1, 6);
                    due("meet(" + a + "," + b + "," + k + ")", x.meet(a, b, k), o.meet(a, b, k)); break; }
                case 16: { int a = near(0, 7); due("ways(" + a + ")", x.ways(a), o.ways(a)); break; }
                case 17: due("plain()", x.plain(), o.plain()); break;
                case 18: { int a = near(0, 1); due("comes(" + a + ")", x.comes(a), o.comes(a)); break; }
                case 19: { int a = near(0, 12), b = near(0, 1);
                    due("behind(" + a + "," + b + ")", x.behind(a, b), o.behind(a, b)); break; }
                case 20: seeSomething(); break;
                case 21: if (in(0, 4) == 0) due("forget()", x.forget(), o.forget()); break;
                case 22: { int a = near(0, 3); due("kinds(" + a + ")", x.kinds(a), o.kinds(a)); break; }
                case 23: { int a = near(0, 3), b = near(0, 1);
                    due("look(" + a + "," + b + ")", x.look(a, b), o.look(a, b)); break; }
                case 24: { int a = near(0, 7); due("danced(" + a + ")", x.danced(a), o.danced(a)); break; }
                case 25: { int a = near(0, 5); due("duel(" + a + ")", x.duel(a), o.duel(a)); break; }
                case 26: case 27: { int a = near(0, 7), b = near(0, 10), c = near(0, 1);
                    due("odds(" + a + "," + b + "," + c + ")", x.odds(a, b, c), o.odds(a, b, c)); break; }
                case 28: { int a = near(0, 9999), b = near(1, 60), c = near(0, 2);
                    due("evening(" + a + "," + b + "," + c + ")", x.evening(a, b, c), o.evening(a, b, c)); break; }
                case 29: due("keep()", x.keep(), o.keep()); break;
                case 30: due("back()", x.back(), o.back()); break;
                default: { int a = near(0, 6); due("count(" + a + ")", x.count(a), o.count(a)); break; }
            }
        }

        void reach() {
            int u = near(-99, 99);
            int l = near(1, 99);
            int dice = in(0, 5);
            if (dice <= 3) {
                u = in(-4, 4);
                l = in(0, 4);
            }
            if (dice == 4) {
                u = in(-1, 1);
                l = 0;
            }
            int k = near(-1, 6);
            due("reach(" + u + "," + l + "," + k + ")", x.reach(u, l, k), o.reach(u, l, k));
        }

        /** Mostly what can really be, so that some kinds are left. */
        void seeSomething() {
            int n = near(0, 12);
            int u = in(-3, 3);
            int l = in(0, 3);
            if (in(0, 4) > 0) {
                int who = in(0, 3);
                int own = o.kind[who];
                o.kind[who] = in(0, 5);
                int bu = o.behind(n, 0);
                int bl = o.behind(n, 1);
                o.kind[who] = own;
                if (bu > RopeDance.WRONG) {
                    u = bu;
                    l = bl;
                }
            }
            due("see(" + n + "," + u + "," + l + ")", x.see(n, u, l), o.see(n, u, l));
        }
    }

    /** How all stands, by place: who stands there, which rope is held there. */
    private static final class Now {
        int[] who = {0, 1, 2, 3};
        int[] rope = {0, 0, 1, 1};
        long u = 0;
        long l = 1;
        int last = 0;
        int beat = 0;

        Now copy() {
            Now c = new Now();
            c.who = who.clone();
            c.rope = rope.clone();
            c.u = u;
            c.l = l;
            c.last = last;
            c.beat = beat;
            return c;
        }

        int at(int dancer) {
            for (int p = 0; p < 4; p++) {
                if (who[p] == dancer) {
                    return p;
                }
            }
            throw new IllegalStateException();
        }

        void put(int i, int j) {
            int p = at(i);
            int q = at(j);
            who[p] = j;
            who[q] = i;
        }

        /** The list of what is really done (1 TWIST, 2 BACK), by who leads. */
        List<Integer> done(int figure, int[] kind) {
            List<Integer> list = new ArrayList<>();
            if (figure > 1) {
                return list;
            }
            int told = figure + 1;
            int k = kind[who[1]];
            if (k == 1) {
                list.add(3 - told);
            } else if (k == 2) {
                if (beat % 2 == 0) {
                    list.add(told);
                }
            } else if (k == 3) {
                list.add(told);
                list.add(told);
            } else if (k == 4) {
                if (rope[1] != rope[2]) {
                    list.add(told);
                }
            } else if (k == 5) {
                list.add(last == 0 ? told : last);
            } else {
                list.add(told);
            }
            return list;
        }

        /** Behind the figure, or null if it is TOO TIGHT. */
        Now behind(int figure, int[] kind) {
            Now n = copy();
            if (figure == 2) {
                for (int p = 0; p < 4; p++) {
                    n.who[(p + 1) % 4] = who[p];
                    n.rope[(p + 1) % 4] = rope[p];
                }
                if (u == 0) {
                    n.u = 1;
                    n.l = 0;
                } else if (l == 0) {
                    n.u = 0;
                    n.l = 1;
                } else {
                    n.u = u > 0 ? -l : l;
                    n.l = u > 0 ? u : -u;
                }
            }
            for (int deed : done(figure, kind)) {
                int w = n.who[1];
                n.who[1] = n.who[2];
                n.who[2] = w;
                int r = n.rope[1];
                n.rope[1] = n.rope[2];
                n.rope[2] = r;
                if (n.l != 0) {
                    n.u += deed == 1 ? n.l : -n.l;
                }
                n.last = deed;
            }
            n.beat++;
            return n.u > 9999 || n.u < -9999 || n.l > 9999 ? null : n;
        }
    }

    private static final class Oracle {
        static final int BAD = -1, NO = -2, FULL = -3, NONE = -4, WRONG = -100000, NOTHING = -100001;
        String text = "";
        int[] kind = {0, 1, 3, 2};
        List<Integer> row = new ArrayList<>(List.of(0, 0, 2, 1, 2));
        Now now = new Now();
        List<Now> past = new ArrayList<>();
        List<Now> kept = new ArrayList<>();
        List<int[]> seen = new ArrayList<>();

        static boolean out(int v, int low, int high) {
            return v < low || v > high;
        }

        int write(int letter) {
            if (out(letter, 32, 126)) {
                return BAD;
            }
            if (text.length() == 200) {
                return FULL;
            }
            text += (char) letter;
            return text.length();
        }

        int wipe() {
            int n = text.length();
            text = "";
            return n;
        }

        int fault() {
            int at = 0;
            int figures = 0;
            while (at < text.length()) {
                int end = text.indexOf(';', at);
                String item = end < 0 ? "" : text.substring(at, end + 1);
                boolean so = item.matches("d[0-3],[0-5];|p[0-3],[0-3];|r[0-3];");
                if (so && item.charAt(0) == 'r') {
                    figures++;
                }
                if (!so || figures > 12) {
                    return at;
                }
                at = end + 1;
            }
            return NONE;
        }

        int lay() {
            if (text.isEmpty() || fault() != NONE) {
                return NO;
            }
            int[] newKind = new int[4];
            int[] newPlace = {0, 1, 2, 3};
            List<Integer> newRow = new ArrayList<>();
            for (String item : text.split(";")) {
                int a = item.charAt(1) - '0';
                int b = item.length() > 3 ? item.charAt(3) - '0' : 0;
                if (item.charAt(0) == 'd') {
                    newKind[a] = b;
                } else if (item.charAt(0) == 'p') {
                    newPlace[a] = b;
                } else {
                    newRow.add(a);
                }
            }
            int[] who = {-1, -1, -1, -1};
            for (int i = 0; i < 4; i++) {
                if (who[newPlace[i]] >= 0) {
                    return NO;
                }
                who[newPlace[i]] = i;
            }
            kind = newKind;
            row = newRow;
            now = new Now();
            now.who = who;
            past.clear();
            kept.clear();
            seen.clear();
            return row.size();
        }

        int dancer(int i, int what) {
            if (out(i, 0, 3) || out(what, 0, 2)) {
                return BAD;
            }
            return what == 0 ? kind[i] : what == 1 ? now.at(i) : now.rope[now.at(i)];
        }

        int place(int p, int what) {
            if (out(p, 0, 3) || out(what, 0, 1)) {
                return BAD;
            }
            return what == 0 ? now.who[p] : now.rope[p];
        }

        int wound(int what) {
            return out(what, 0, 1) ? WRONG : (int) (what == 0 ? now.u : now.l);
        }

        int row(int k) {
            return out(k, 0, 11) ? BAD : k < row.size() ? row.get(k) : NONE;
        }

        void remember() {
            past.add(now.copy());
            if (past.size() > 8) {
                past.remove(0);
            }
        }

        int dance(int figure) {
            if (out(figure, 0, 3)) {
                return BAD;
            }
            Now next = now.behind(figure, kind);
            if (next == null) {
                return NO;
            }
            int answer = 10;
            for (int deed : now.done(figure, kind)) {
                answer += deed == 1 ? 1 : -1;
            }
            remember();
            now = next;
            return answer;
        }

        int put(int i, int j) {
            if (out(i, 0, 3) || out(j, 0, 3) || i == j) {
                return BAD;
            }
            remember();
            now.put(i, j);
            return now.at(i);
        }

        int undo() {
            if (past.isEmpty()) {
                return NO;
            }
            now = past.remove(past.size() - 1);
            return past.size();
        }

        /** Behind a row of n figures that is the number's digits in base 3, or null. */
        Now behindRow(Now from, int n, int number, int[] kinds) {
            Now stand = from;
            int weight = (int) Math.round(Math.pow(3, n));
            for (int d = 0; d < n && stand != null; d++) {
                weight /= 3;
                stand = stand.behind(number / weight % 3, kinds);
            }
            return stand;
        }

        interface Wish {
            boolean holds(Now n);
        }

        int fewest(Wish wish, int k) {
            for (int n = 0; n <= 7; n++) {
                int all = (int) Math.round(Math.pow(3, n));
                for (int number = 0; number < all; number++) {
                    Now end = behindRow(now, n, number, kind);
                    if (end != null && wish.holds(end)) {
                        return k == -1 ? n : k >= n ? NONE
                                : number / (int) Math.round(Math.pow(3, n - 1 - k)) % 3;
                    }
                }
            }
            return NONE;
        }

        int free(int k) {
            return out(k, -1, 6) ? BAD : fewest(s -> s.u == 0, k);
        }

        static boolean fraction(int u, int l) {
            if (u == 1 && l == 0) {
                return true;
            }
            if (out(u, -99, 99) || out(l, 1, 99)) {
                return false;
            }
            for (int d = 2; d <= 99; d++) {
                if (u % d == 0 && l % d == 0) {
                    return false;
                }
            }
            return true;
        }

        int reach(int u, int l, int k) {
            return !fraction(u, l) || out(k, -1, 6) ? BAD : fewest(s -> s.u == u && s.l == l, k);
        }

        int meet(int i, int j, int k) {
            if (out(i, 0, 3) || out(j, 0, 3) || i == j || out(k, -1, 6)) {
                return BAD;
            }
            return fewest(s -> (s.at(i) + 1) % 4 == s.at(j) || (s.at(j) + 1) % 4 == s.at(i), k);
        }

        int rows(Now from, int n, int[] kinds, long u, long l) {
            int all = (int) Math.round(Math.pow(3, n));
            int count = 0;
            for (int number = 0; number < all; number++) {
                Now end = behindRow(from, n, number, kinds);
                if (end != null && end.u == u && end.l == l) {
                    count++;
                }
            }
            return count;
        }

        int ways(int n) {
            return out(n, 0, 7) ? BAD : rows(now, n, kind, 0, 1);
        }

        int plain() {
            Now s = now;
            int n = 0;
            while (s != null && s.u != 0) {
                if (n == 60) {
                    return NONE;
                }
                s = s.behind(s.u < 0 ? 0 : 2, kind);
                n++;
            }
            return s == null ? NONE : n;
        }

        int comes(int what) {
            if (out(what, 0, 1)) {
                return BAD;
            }
            Now s = now;
            int n = 0;
            for (int figure : row) {
                Now next = s.behind(figure, kind);
                if (next == null) {
                    break;
                }
                s = next;
                n++;
            }
            return what == 0 ? n : s.who[0];
        }

        Now behindFirst(int n, int[] kinds) {
            Now s = now;
            for (int k = 0; k < n && k < row.size() && s != null; k++) {
                s = s.behind(row.get(k), kinds);
            }
            return s;
        }

        int behind(int n, int what) {
            if (out(n, 0, 12) || out(what, 0, 1)) {
                return WRONG;
            }
            Now s = behindFirst(n, kind);
            return s == null ? NOTHING : (int) (what == 0 ? s.u : s.l);
        }

        int see(int n, int u, int l) {
            if (out(n, 0, 12) || !fraction(u, l)) {
                return BAD;
            }
            if (seen.size() == 6) {
                return FULL;
            }
            seen.add(new int[] {n, u, l});
            return seen.size();
        }

        int forget() {
            int n = seen.size();
            seen.clear();
            return n;
        }

        int[] with(int i, int k) {
            int[] kinds = kind.clone();
            kinds[i] = k;
            return kinds;
        }

        int kinds(int i) {
            if (out(i, 0, 3)) {
                return BAD;
            }
            int bits = 0;
            for (int k = 0; k < 6; k++) {
                boolean so = true;
                for (int[] s : seen) {
                    Now end = behindFirst(s[0], with(i, k));
                    so &= end != null && end.u == s[1] && end.l == s[2];
                }
                bits += so ? 1 << k : 0;
            }
            return bits;
        }

        int look(int i, int what) {
            if (out(i, 0, 3) || out(what, 0, 1)) {
                return BAD;
            }
            int bits = kinds(i);
            if (Integer.bitCount(bits) < 2) {
                return NONE;
            }
            int bestN = 0;
            int bestPart = 100;
            for (int n = 1; n <= 12; n++) {
                java.util.Map<String, Integer> parts = new java.util.HashMap<>();
                for (int k = 0; k < 6; k++) {
                    if ((bits & 1 << k) != 0) {
                        Now end = behindFirst(n, with(i, k));
                        parts.merge(end == null ? "tight" : end.u + "/" + end.l, 1, Integer::sum);
                    }
                }
                int greatest = java.util.Collections.max(parts.values());
                if (greatest < bestPart) {
                    bestPart = greatest;
                    bestN = n;
                }
            }
            return what == 0 ? bestN : bestPart;
        }

        int danced(int n) {
            return out(n, 0, 7) ? BAD : rows(new Now(), n, new int[4], now.u, now.l);
        }

        long turns(Now s, int left, boolean first) {
            if (left == 0) {
                return Math.max(Math.abs(s.u), s.l);
            }
            List<Long> values = new ArrayList<>();
            for (int figure : new int[] {first ? 0 : 1, 2, 3}) {
                Now next = s.behind(figure, kind);
                if (next != null) {
                    values.add(turns(next, left - 1, !first));
                }
            }
            return first ? java.util.Collections.max(values) : java.util.Collections.min(values);
        }

        int duel(int n) {
            return out(n, 0, 5) ? BAD : (int) turns(now, n, true);
        }

        int odds(int n, int x, int part) {
            if (out(n, 0, 7) || out(x, 0, 10) || out(part, 0, 1)) {
                return BAD;
            }
            int m = Math.min(n, row.size());
            long above = 0;
            long below = 1;
            for (int i = 0; i < m; i++) {
                below *= 10;
            }
            for (int mask = 0; mask < 1 << m; mask++) {
                Now s = now;
                long weight = 1;
                for (int i = 0; i < m; i++) {
                    boolean rests = (mask >> i & 1) == 1;
                    weight *= rests ? x : 10 - x;
                    Now next = s.behind(rests ? 3 : row.get(i), kind);
                    s = next == null ? s.behind(3, kind) : next;
                }
                if (s.u == 0) {
                    above += weight;
                }
            }
            java.math.BigInteger g = java.math.BigInteger.valueOf(above).gcd(java.math.BigInteger.valueOf(below));
            return (int) ((part == 0 ? above : below) / g.longValue());
        }

        int evening(int z, int n, int what) {
            if (out(z, 0, 9999) || out(n, 1, 60) || out(what, 0, 2)) {
                return BAD;
            }
            Now s = now.copy();
            int zero = 0;
            int tight = 0;
            for (int k = 0; k < n; k++) {
                java.math.BigInteger y = java.math.BigInteger.valueOf(7919L * z + 6151L * k + 1);
                int draw = y.multiply(y).mod(java.math.BigInteger.valueOf(65521)).intValue();
                Now next = s.behind(draw % 4, kind);
                if (next == null) {
                    tight++;
                    next = s.behind(3, kind);
                }
                s = next;
                if (draw / 4 % 8 == 0) {
                    s.put(s.who[0], s.who[2]);
                }
                zero += s.u == 0 ? 1 : 0;
            }
            return what == 0 ? zero : what == 1 ? tight : s.who[0];
        }

        int keep() {
            if (kept.size() == 2) {
                return FULL;
            }
            kept.add(now.copy());
            return kept.size();
        }

        int back() {
            if (kept.isEmpty()) {
                return NO;
            }
            now = kept.remove(kept.size() - 1);
            past.clear();
            return kept.size();
        }

        int count(int what) {
            int[] all = {row.size(), now.beat, now.last, past.size(), kept.size(), seen.size(), text.length()};
            return out(what, 0, 6) ? BAD : all[what];
        }
    }
}
