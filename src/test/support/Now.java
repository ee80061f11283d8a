import java.util.ArrayList;
import java.util.List;

/** How all stands, by place: who stands there, which rope is held there. */
final class Now {
    int[] who = {0, 1, 2, 3};
    int[] rope = {0, 0, 1, 1};
    long u = 0;
    long l = 1;
    int last = 0;
    int beat = 0;

    Now copy() {
        Now c = new Now();
        c.who = who.clone();
        c.rope = rope.clone();
        c.u = u;
        c.l = l;
        c.last = last;
        c.beat = beat;
        return c;
    }

    int at(int dancer) {
        for (int p = 0; p < 4; p++) {
            if (who[p] == dancer) {
                return p;
            }
        }
        throw new IllegalStateException();
    }

    void put(int i, int j) {
        int p = at(i);
        int q = at(j);
        who[p] = j;
        who[q] = i;
    }

    /** The list of what is really done (1 TWIST, 2 BACK), by who leads. */
    List<Integer> done(int figure, int[] kind) {
        List<Integer> list = new ArrayList<>();
        if (figure > 1) {
            return list;
        }
        int told = figure + 1;
        int k = kind[who[1]];
        if (k == 1) {
            list.add(3 - told);
        } else if (k == 2) {
            if (beat % 2 == 0) {
                list.add(told);
            }
        } else if (k == 3) {
            list.add(told);
            list.add(told);
        } else if (k == 4) {
            if (rope[1] != rope[2]) {
                list.add(told);
            }
        } else if (k == 5) {
            list.add(last == 0 ? told : last);
        } else {
            list.add(told);
        }
        return list;
    }

    /** Behind the figure, or null if it is TOO TIGHT. */
    Now behind(int figure, int[] kind) {
        Now n = copy();
        if (figure == 2) {
            for (int p = 0; p < 4; p++) {
                n.who[(p + 1) % 4] = who[p];
                n.rope[(p + 1) % 4] = rope[p];
            }
            if (u == 0) {
                n.u = 1;
                n.l = 0;
            } else if (l == 0) {
                n.u = 0;
                n.l = 1;
            } else {
                n.u = u > 0 ? -l : l;
                n.l = u > 0 ? u : -u;
            }
        }
        for (int deed : done(figure, kind)) {
            int w = n.who[1];
            n.who[1] = n.who[2];
            n.who[2] = w;
            int r = n.rope[1];
            n.rope[1] = n.rope[2];
            n.rope[2] = r;
            if (n.l != 0) {
                n.u += deed == 1 ? n.l : -n.l;
            }
            n.last = deed;
        }
        n.beat++;
        return n.u > 9999 || n.u < -9999 || n.l > 9999 ? null : n;
    }
}
