import java.util.ArrayList;
import java.util.List;

/** A second program, written as the document's words stand, by trying every row out whole. */
final class Oracle {
    static final int BAD = -1, NO = -2, FULL = -3, NONE = -4, WRONG = -100000, NOTHING = -100001;
    String text = "";
    int[] kind = {0, 1, 3, 2};
    List<Integer> row = new ArrayList<>(List.of(0, 0, 2, 1, 2));
    Now now = new Now();
    List<Now> past = new ArrayList<>();
    List<Now> kept = new ArrayList<>();
    List<int[]> seen = new ArrayList<>();

    /** Laid from a text, some figures danced. */
    static Oracle laid(String text, int... figures) {
        Oracle o = new Oracle();
        o.text = text;
        o.lay();
        for (int figure : figures) {
            o.dance(figure);
        }
        return o;
    }

    static boolean out(int v, int low, int high) {
        return v < low || v > high;
    }

    int write(int letter) {
        if (out(letter, 32, 126)) {
            return BAD;
        }
        if (text.length() == 200) {
            return FULL;
        }
        text += (char) letter;
        return text.length();
    }

    int wipe() {
        int n = text.length();
        text = "";
        return n;
    }

    int fault() {
        int at = 0;
        int figures = 0;
        while (at < text.length()) {
            int end = text.indexOf(';', at);
            String item = end < 0 ? "" : text.substring(at, end + 1);
            boolean so = item.matches("d[0-3],[0-5];|p[0-3],[0-3];|r[0-3];");
            if (so && item.charAt(0) == 'r') {
                figures++;
            }
            if (!so || figures > 12) {
                return at;
            }
            at = end + 1;
        }
        return NONE;
    }

    int lay() {
        if (text.isEmpty() || fault() != NONE) {
            return NO;
        }
        int[] newKind = new int[4];
        int[] newPlace = {0, 1, 2, 3};
        List<Integer> newRow = new ArrayList<>();
        for (String item : text.split(";")) {
            int a = item.charAt(1) - '0';
            int b = item.length() > 3 ? item.charAt(3) - '0' : 0;
            if (item.charAt(0) == 'd') {
                newKind[a] = b;
            } else if (item.charAt(0) == 'p') {
                newPlace[a] = b;
            } else {
                newRow.add(a);
            }
        }
        int[] who = {-1, -1, -1, -1};
        for (int i = 0; i < 4; i++) {
            if (who[newPlace[i]] >= 0) {
                return NO;
            }
            who[newPlace[i]] = i;
        }
        kind = newKind;
        row = newRow;
        now = new Now();
        now.who = who;
        past.clear();
        kept.clear();
        seen.clear();
        return row.size();
    }

    int dancer(int i, int what) {
        if (out(i, 0, 3) || out(what, 0, 2)) {
            return BAD;
        }
        return what == 0 ? kind[i] : what == 1 ? now.at(i) : now.rope[now.at(i)];
    }

    int place(int p, int what) {
        if (out(p, 0, 3) || out(what, 0, 1)) {
            return BAD;
        }
        return what == 0 ? now.who[p] : now.rope[p];
    }

    int wound(int what) {
        return out(what, 0, 1) ? WRONG : (int) (what == 0 ? now.u : now.l);
    }

    int row(int k) {
        return out(k, 0, 11) ? BAD : k < row.size() ? row.get(k) : NONE;
    }

    void remember() {
        past.add(now.copy());
        if (past.size() > 8) {
            past.remove(0);
        }
    }

    int dance(int figure) {
        if (out(figure, 0, 3)) {
            return BAD;
        }
        Now next = now.behind(figure, kind);
        if (next == null) {
            return NO;
        }
        int answer = 10;
        for (int deed : now.done(figure, kind)) {
            answer += deed == 1 ? 1 : -1;
        }
        remember();
        now = next;
        return answer;
    }

    int put(int i, int j) {
        if (out(i, 0, 3) || out(j, 0, 3) || i == j) {
            return BAD;
        }
        remember();
        now.put(i, j);
        return now.at(i);
    }

    int undo() {
        if (past.isEmpty()) {
            return NO;
        }
        now = past.remove(past.size() - 1);
        return past.size();
    }

    /** Behind a row of n figures that is the number's digits in base 3, or null. */
    Now behindRow(Now from, int n, int number, int[] kinds) {
        Now stand = from;
        int weight = (int) Math.round(Math.pow(3, n));
        for (int d = 0; d < n && stand != null; d++) {
            weight /= 3;
            stand = stand.behind(number / weight % 3, kinds);
        }
        return stand;
    }

    interface Wish {
        boolean holds(Now n);
    }

    int fewest(Wish wish, int k) {
        for (int n = 0; n <= 7; n++) {
            int all = (int) Math.round(Math.pow(3, n));
            for (int number = 0; number < all; number++) {
                Now end = behindRow(now, n, number, kind);
                if (end != null && wish.holds(end)) {
                    return k == -1 ? n : k >= n ? NONE
                            : number / (int) Math.round(Math.pow(3, n - 1 - k)) % 3;
                }
            }
        }
        return NONE;
    }

    int free(int k) {
        return out(k, -1, 6) ? BAD : fewest(s -> s.u == 0, k);
    }

    static boolean fraction(int u, int l) {
        if (u == 1 && l == 0) {
            return true;
        }
        if (out(u, -99, 99) || out(l, 1, 99)) {
            return false;
        }
        for (int d = 2; d <= 99; d++) {
            if (u % d == 0 && l % d == 0) {
                return false;
            }
        }
        return true;
    }

    int reach(int u, int l, int k) {
        return !fraction(u, l) || out(k, -1, 6) ? BAD : fewest(s -> s.u == u && s.l == l, k);
    }

    int meet(int i, int j, int k) {
        if (out(i, 0, 3) || out(j, 0, 3) || i == j || out(k, -1, 6)) {
            return BAD;
        }
        return fewest(s -> (s.at(i) + 1) % 4 == s.at(j) || (s.at(j) + 1) % 4 == s.at(i), k);
    }

    int rows(Now from, int n, int[] kinds, long u, long l) {
        int all = (int) Math.round(Math.pow(3, n));
        int count = 0;
        for (int number = 0; number < all; number++) {
            Now end = behindRow(from, n, number, kinds);
            if (end != null && end.u == u && end.l == l) {
                count++;
            }
        }
        return count;
    }

    int ways(int n) {
        return out(n, 0, 7) ? BAD : rows(now, n, kind, 0, 1);
    }

    int plain() {
        Now s = now;
        int n = 0;
        while (s != null && s.u != 0) {
            if (n == 60) {
                return NONE;
            }
            s = s.behind(s.u < 0 ? 0 : 2, kind);
            n++;
        }
        return s == null ? NONE : n;
    }

    int comes(int what) {
        if (out(what, 0, 1)) {
            return BAD;
        }
        Now s = now;
        int n = 0;
        for (int figure : row) {
            Now next = s.behind(figure, kind);
            if (next == null) {
                break;
            }
            s = next;
            n++;
        }
        return what == 0 ? n : s.who[0];
    }

    Now behindFirst(int n, int[] kinds) {
        Now s = now;
        for (int k = 0; k < n && k < row.size() && s != null; k++) {
            s = s.behind(row.get(k), kinds);
        }
        return s;
    }

    int behind(int n, int what) {
        if (out(n, 0, 12) || out(what, 0, 1)) {
            return WRONG;
        }
        Now s = behindFirst(n, kind);
        return s == null ? NOTHING : (int) (what == 0 ? s.u : s.l);
    }

    int see(int n, int u, int l) {
        if (out(n, 0, 12) || !fraction(u, l)) {
            return BAD;
        }
        if (seen.size() == 6) {
            return FULL;
        }
        seen.add(new int[] {n, u, l});
        return seen.size();
    }

    int forget() {
        int n = seen.size();
        seen.clear();
        return n;
    }

    int[] with(int i, int k) {
        int[] kinds = kind.clone();
        kinds[i] = k;
        return kinds;
    }

    int kinds(int i) {
        if (out(i, 0, 3)) {
            return BAD;
        }
        int bits = 0;
        for (int k = 0; k < 6; k++) {
            boolean so = true;
            for (int[] s : seen) {
                Now end = behindFirst(s[0], with(i, k));
                so &= end != null && end.u == s[1] && end.l == s[2];
            }
            bits += so ? 1 << k : 0;
        }
        return bits;
    }

    int look(int i, int what) {
        if (out(i, 0, 3) || out(what, 0, 1)) {
            return BAD;
        }
        int bits = kinds(i);
        if (Integer.bitCount(bits) < 2) {
            return NONE;
        }
        int bestN = 0;
        int bestPart = 100;
        for (int n = 1; n <= 12; n++) {
            java.util.Map<String, Integer> parts = new java.util.HashMap<>();
            for (int k = 0; k < 6; k++) {
                if ((bits & 1 << k) != 0) {
                    Now end = behindFirst(n, with(i, k));
                    parts.merge(end == null ? "tight" : end.u + "/" + end.l, 1, Integer::sum);
                }
            }
            int greatest = java.util.Collections.max(parts.values());
            if (greatest < bestPart) {
                bestPart = greatest;
                bestN = n;
            }
        }
        return what == 0 ? bestN : bestPart;
    }

    int danced(int n) {
        return out(n, 0, 7) ? BAD : rows(new Now(), n, new int[4], now.u, now.l);
    }

    long turns(Now s, int left, boolean first) {
        if (left == 0) {
            return Math.max(Math.abs(s.u), s.l);
        }
        List<Long> values = new ArrayList<>();
        for (int figure : new int[] {first ? 0 : 1, 2, 3}) {
            Now next = s.behind(figure, kind);
            if (next != null) {
                values.add(turns(next, left - 1, !first));
            }
        }
        return first ? java.util.Collections.max(values) : java.util.Collections.min(values);
    }

    int duel(int n) {
        return out(n, 0, 5) ? BAD : (int) turns(now, n, true);
    }

    int odds(int n, int x, int part) {
        if (out(n, 0, 7) || out(x, 0, 10) || out(part, 0, 1)) {
            return BAD;
        }
        int m = Math.min(n, row.size());
        long above = 0;
        long below = 1;
        for (int i = 0; i < m; i++) {
            below *= 10;
        }
        for (int mask = 0; mask < 1 << m; mask++) {
            Now s = now;
            long weight = 1;
            for (int i = 0; i < m; i++) {
                boolean rests = (mask >> i & 1) == 1;
                weight *= rests ? x : 10 - x;
                Now next = s.behind(rests ? 3 : row.get(i), kind);
                s = next == null ? s.behind(3, kind) : next;
            }
            if (s.u == 0) {
                above += weight;
            }
        }
        java.math.BigInteger g = java.math.BigInteger.valueOf(above).gcd(java.math.BigInteger.valueOf(below));
        return (int) ((part == 0 ? above : below) / g.longValue());
    }

    int evening(int z, int n, int what) {
        if (out(z, 0, 9999) || out(n, 1, 60) || out(what, 0, 2)) {
            return BAD;
        }
        Now s = now.copy();
        int zero = 0;
        int tight = 0;
        for (int k = 0; k < n; k++) {
            java.math.BigInteger y = java.math.BigInteger.valueOf(7919L * z + 6151L * k + 1);
            int draw = y.multiply(y).mod(java.math.BigInteger.valueOf(65521)).intValue();
            Now next = s.behind(draw % 4, kind);
            if (next == null) {
                tight++;
                next = s.behind(3, kind);
            }
            s = next;
            if (draw / 4 % 8 == 0) {
                s.put(s.who[0], s.who[2]);
            }
            zero += s.u == 0 ? 1 : 0;
        }
        return what == 0 ? zero : what == 1 ? tight : s.who[0];
    }

    int keep() {
        if (kept.size() == 2) {
            return FULL;
        }
        kept.add(now.copy());
        return kept.size();
    }

    int back() {
        if (kept.isEmpty()) {
            return NO;
        }
        now = kept.remove(kept.size() - 1);
        past.clear();
        return kept.size();
    }

    int count(int what) {
        int[] all = {row.size(), now.beat, now.last, past.size(), kept.size(), seen.size(), text.length()};
        return out(what, 0, 6) ? BAD : all[what];
    }
}
