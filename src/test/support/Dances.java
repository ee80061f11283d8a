import java.util.ArrayList;
import java.util.List;

/** What many tests do with a dance: tell it, wind it, read all of it. */
final class Dances {
    static final int BAD = -1, NO = -2, FULL = -3, NONE = -4, WRONG = -100000, NOTHING = -100001;
    static final int TWIST = 0, BACK = 1, TURN = 2, REST = 3;
    static final int LEAST = Integer.MIN_VALUE, GREATEST = Integer.MAX_VALUE;
    static final String FIRST = "d1,1;d2,3;d3,2;r0;r0;r2;r1;r2;";
    static final String TWELVE = "r0;r1;r2;r3;r3;r2;r1;r0;r2;r0;r2;r1;";

    private Dances() {
    }

    static int tell(RopeDance x, String text) {
        int answer = 0;
        for (char letter : text.toCharArray()) {
            answer = x.write(letter);
        }
        return answer;
    }

    static RopeDance told(String text) {
        RopeDance x = new RopeDance();
        tell(x, text);
        return x;
    }

    static RopeDance laid(String text) {
        RopeDance x = told(text);
        if (x.lay() < 0) {
            throw new IllegalStateException("can not be laid: " + text);
        }
        return x;
    }

    static void dance(RopeDance x, int... figures) {
        for (int figure : figures) {
            x.dance(figure);
        }
    }

    static void times(RopeDance x, int count, int figure) {
        for (int i = 0; i < count; i++) {
            x.dance(figure);
        }
    }

    static void wound(RopeDance x, int u, int l) {
        Asked.due("wound(0)", x.wound(0), u);
        Asked.due("wound(1)", x.wound(1), l);
    }

    static void stand(RopeDance x, int... who) {
        for (int p = 0; p < 4; p++) {
            Asked.due("place(" + p + ", 0)", x.place(p, 0), who[p]);
            Asked.due("dancer(" + who[p] + ", 1)", x.dancer(who[p], 1), p);
        }
    }

    /** The rope held at each place. */
    static void ropes(RopeDance x, int... rope) {
        for (int p = 0; p < 4; p++) {
            Asked.due("place(" + p + ", 1)", x.place(p, 1), rope[p]);
            Asked.due("dancer(" + x.place(p, 0) + ", 2)", x.dancer(x.place(p, 0), 2), rope[p]);
        }
    }

    static void counts(RopeDance x, int... want) {
        for (int what = 0; what < 7; what++) {
            Asked.due("count(" + what + ")", x.count(what), want[what]);
        }
    }

    // ---- winding up to where it is tight

    /** The figures from 0 to a fraction that is in lowest terms: the short way out of it, gone backwards. */
    static List<Integer> wayTo(int u, int l) {
        List<Integer> way = new ArrayList<>();
        int a = u;
        int b = l;
        while (a != 0) {
            if (b == 0 || Math.abs(a) < b) {
                int c = a;
                a = c > 0 ? -b : b;
                b = Math.abs(c);
                way.add(0, TURN);
            } else {
                boolean above = a > 0;
                a += above ? -b : b;
                way.add(0, above ? TWIST : BACK);
            }
        }
        return way;
    }

    /** Dances to a fraction from 0 on; whoever is not PLAIN is put aside so as not to lead on the way. */
    static void windTo(RopeDance x, int u, int l) {
        for (int figure : wayTo(u, l)) {
            if (figure != TURN) {
                letLead(x, aPlainOne(x));
            }
            x.dance(figure);
        }
        if (x.wound(0) != u || x.wound(1) != l) {
            throw new IllegalStateException("not wound to " + u + " by " + l);
        }
    }

    static void letLead(RopeDance x, int i) {
        if (x.place(1, 0) != i) {
            x.put(x.place(1, 0), i);
        }
    }

    private static int aPlainOne(RopeDance x) {
        for (int j = 0; j < 4; j++) {
            if (x.dancer(j, 0) == 0) {
                return j;
            }
        }
        throw new IllegalStateException("no PLAIN one");
    }

    /** U and L above 0, in lowest terms, U and so many times L together being the sum, the way to it short. */
    static int[] fractionWith(int sum, int times) {
        int[] best = null;
        int shortest = 60;
        for (int l = 1000; l < 5000; l++) {
            int u = sum - times * l;
            if (u > 0 && divisor(u, l) == 1 && wayTo(u, l).size() < shortest) {
                best = new int[] {u, l};
                shortest = wayTo(u, l).size();
            }
        }
        if (best == null) {
            throw new IllegalStateException("no short way");
        }
        return best;
    }

    /** One that reach() and see() take. */
    static boolean isTold(int u, int l) {
        return u == 1 && l == 0 || u >= -99 && u <= 99 && l >= 1 && l <= 99 && divisor(u, l) == 1;
    }

    static int divisor(int a, int b) {
        return b == 0 ? Math.abs(a) : divisor(b, a % b);
    }

    // ---- all that can be read

    /** How it stands: the counts, who stands where, whose rope is whose, WOUND. */
    static void readStand(RopeDance x, List<Integer> into) {
        for (int what = 0; what < 7; what++) {
            into.add(x.count(what));
        }
        for (int p = 0; p < 4; p++) {
            into.add(x.place(p, 0));
            into.add(x.place(p, 1));
        }
        into.add(x.wound(0));
        into.add(x.wound(1));
    }

    /**
     * All that can be known of an object: how it stands, its kinds and ROW, what the SEEN tells, then
     * every stand that can be UNDONE or is KEPT, then THE TEXT by what is laid from it. Some 300 calls.
     */
    static List<Integer> drained(RopeDance x) {
        List<Integer> all = new ArrayList<>();
        readStand(x, all);
        for (int i = 0; i < 4; i++) {
            all.add(x.dancer(i, 0));
            all.add(x.kinds(i));
        }
        for (int k = 0; k < 12; k++) {
            all.add(x.row(k));
        }
        for (int n = 0; n < 9; n++) {
            all.add(x.undo());
            readStand(x, all);
        }
        for (int n = 0; n < 3; n++) {
            all.add(x.back());
            readStand(x, all);
        }
        all.add(x.fault());
        all.add(x.lay());
        readStand(x, all);
        for (int i = 0; i < 4; i++) {
            all.add(x.dancer(i, 0));
            all.add(x.row(i));
        }
        all.add(x.wipe());
        return all;
    }
}
