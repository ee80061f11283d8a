import java.util.ArrayList;
import java.util.List;
import java.util.Random;

/** Runs of 512 calls by a fixed seed, each answer held against the second program, Oracle. */
public final class OracleRuns {
    private static final int RUNS = 1200;
    private static final int CALLS = 512;
    private static int wrong = 0;
    private static long calls = 0;

    public static void main(String[] args) {
        for (int seed = 0; seed < RUNS && wrong < 20; seed++) {
            new OneRun(seed).go();
        }
        System.out.println(calls + " calls, " + wrong + " answers are not as due");
        if (wrong != 0) {
            System.exit(1);
        }
    }

    private static final class OneRun {
        final int seed;
        final Random random;
        final RopeDance x = new RopeDance();
        final Oracle o = new Oracle();
        final List<String> told = new ArrayList<>();

        OneRun(int seed) {
            this.seed = seed;
            this.random = new Random(seed);
        }

        /** Beyond 512 calls nothing is promised. */
        boolean isOver() {
            return told.size() >= CALLS;
        }

        void due(String call, int got, int want) {
            if (isOver()) {
                return;
            }
            calls++;
            told.add(call + " = " + got);
            if (got != want) {
                wrong++;
                System.out.println("seed " + seed + ": " + call + " answered " + got + ", due is " + want);
                int from = Math.max(0, told.size() - 40);
                System.out.println("  behind " + told.subList(from, told.size()));
            }
        }

        int in(int low, int high) {
            return low + random.nextInt(high - low + 1);
        }

        /** Mostly as told, at times beside it. */
        int near(int low, int high) {
            int dice = random.nextInt(40);
            if (dice == 0) {
                return low - 1;
            }
            if (dice == 1) {
                return high + 1;
            }
            if (dice == 2) {
                return random.nextInt();
            }
            return in(low, high);
        }

        void write(String text) {
            for (char c : text.toCharArray()) {
                due("write(" + (int) c + ")", x.write(c), o.write(c));
            }
        }

        String danceText() {
            StringBuilder text = new StringBuilder();
            for (int i = 0; i < 4; i++) {
                if (in(0, 3) > 0) {
                    text.append('d').append(i).append(',').append(in(0, 5)).append(';');
                }
            }
            if (in(0, 1) == 0) {
                int a = in(0, 3);
                int b = (a + in(1, 3)) % 4;
                text.append('p').append(a).append(',').append(b).append(';');
                if (in(0, 6) > 0) {
                    text.append('p').append(b).append(',').append(a).append(';');
                }
            }
            int figures = in(0, 13);
            for (int i = 0; i < figures; i++) {
                text.append('r').append(in(0, 3)).append(';');
            }
            if (in(0, 9) == 0 && text.length() > 0) {
                text.setCharAt(in(0, text.length() - 1), "drp0123456,; ".charAt(in(0, 12)));
            }
            return text.toString();
        }

        void layAnew() {
            due("wipe()", x.wipe(), o.wipe());
            write(danceText());
            due("fault()", x.fault(), o.fault());
            due("lay()", x.lay(), o.lay());
        }

        void windUp() {
            int steps = in(5, 60);
            for (int i = 0; i < steps; i++) {
                int figure = i % 2 == 1 ? 2 : o.now.u >= 0 ? 0 : 1;
                due("dance(" + figure + ")", x.dance(figure), o.dance(figure));
            }
        }

        /** To where the next TWIST or BACK is just at 9999, or just beyond it. */
        void windTight() {
            due("wipe()", x.wipe(), o.wipe());
            write("d0," + in(0, 5) + ";d1," + in(0, 5) + ";d2," + in(0, 5) + ";d3,0;r0;r1;r2;r0;r1;r0;");
            due("lay()", x.lay(), o.lay());
            int[] f = Dances.fractionWith(in(9998, 10001), in(1, 2));
            int sign = in(0, 1) == 0 ? 1 : -1;
            for (int figure : Dances.wayTo(sign * f[0], f[1])) {
                int leader = o.place(1, 0);
                if (figure != 2 && leader != 3) {
                    due("put(" + leader + ",3)", x.put(leader, 3), o.put(leader, 3));
                }
                due("dance(" + figure + ")", x.dance(figure), o.dance(figure));
            }
        }

        void go() {
            if (in(0, 9) > 0) {
                layAnew();
            }
            if (in(0, 2) == 0) {
                windUp();
            }
            if (in(0, 3) == 0) {
                windTight();
            }
            while (!isOver() && wrong < 20) {
                any();
            }
        }

        void any() {
            switch (in(0, 32)) {
                case 0: { int a = near(32, 126); due("write(" + a + ")", x.write(a), o.write(a)); break; }
                case 1: if (in(0, 9) == 0) due("wipe()", x.wipe(), o.wipe()); break;
                case 2: due("fault()", x.fault(), o.fault()); break;
                case 3: if (in(0, 29) == 0) layAnew(); else if (in(0, 9) == 0) due("lay()", x.lay(), o.lay()); break;
                case 4: { int a = near(0, 3), b = near(0, 2);
                    due("dancer(" + a + "," + b + ")", x.dancer(a, b), o.dancer(a, b)); break; }
                case 5: { int a = near(0, 3), b = near(0, 1);
                    due("place(" + a + "," + b + ")", x.place(a, b), o.place(a, b)); break; }
                case 6: { int a = near(0, 1); due("wound(" + a + ")", x.wound(a), o.wound(a)); break; }
                case 7: { int a = near(0, 11); due("row(" + a + ")", x.row(a), o.row(a)); break; }
                case 8: case 9: case 10: { int a = near(0, 3);
                    due("dance(" + a + ")", x.dance(a), o.dance(a)); break; }
                case 11: { int a = near(0, 3), b = near(0, 3);
                    due("put(" + a + "," + b + ")", x.put(a, b), o.put(a, b)); break; }
                case 12: due("undo()", x.undo(), o.undo()); break;
                case 13: { int a = near(-1, 6); due("free(" + a + ")", x.free(a), o.free(a)); break; }
                case 14: reach(); break;
                case 15: { int a = near(0, 3), b = near(0, 3), k = near(-1, 6);
                    due("meet(" + a + "," + b + "," + k + ")", x.meet(a, b, k), o.meet(a, b, k)); break; }
                case 16: { int a = near(0, 7); due("ways(" + a + ")", x.ways(a), o.ways(a)); break; }
                case 17: due("plain()", x.plain(), o.plain()); break;
                case 18: { int a = near(0, 1); due("comes(" + a + ")", x.comes(a), o.comes(a)); break; }
                case 19: { int a = near(0, 12), b = near(0, 1);
                    due("behind(" + a + "," + b + ")", x.behind(a, b), o.behind(a, b)); break; }
                case 20: seeSomething(); break;
                case 21: if (in(0, 4) == 0) due("forget()", x.forget(), o.forget()); break;
                case 22: { int a = near(0, 3); due("kinds(" + a + ")", x.kinds(a), o.kinds(a)); break; }
                case 23: { int a = near(0, 3), b = near(0, 1);
                    due("look(" + a + "," + b + ")", x.look(a, b), o.look(a, b)); break; }
                case 24: { int a = near(0, 7); due("danced(" + a + ")", x.danced(a), o.danced(a)); break; }
                case 25: { int a = near(0, 5); due("duel(" + a + ")", x.duel(a), o.duel(a)); break; }
                case 26: case 27: { int a = near(0, 7), b = near(0, 10), c = near(0, 1);
                    due("odds(" + a + "," + b + "," + c + ")", x.odds(a, b, c), o.odds(a, b, c)); break; }
                case 28: { int a = near(0, 9999), b = near(1, 60), c = near(0, 2);
                    due("evening(" + a + "," + b + "," + c + ")", x.evening(a, b, c), o.evening(a, b, c)); break; }
                case 29: due("keep()", x.keep(), o.keep()); break;
                case 30: due("back()", x.back(), o.back()); break;
                default: { int a = near(0, 6); due("count(" + a + ")", x.count(a), o.count(a)); break; }
            }
        }

        void reach() {
            int u = near(-99, 99);
            int l = near(1, 99);
            int dice = in(0, 5);
            if (dice <= 3) {
                u = in(-4, 4);
                l = in(0, 4);
            }
            if (dice == 4) {
                u = in(-1, 1);
                l = 0;
            }
            int k = near(-1, 6);
            due("reach(" + u + "," + l + "," + k + ")", x.reach(u, l, k), o.reach(u, l, k));
        }

        /** Mostly what can really be, so that some kinds are left. */
        void seeSomething() {
            int n = near(0, 12);
            int u = in(-3, 3);
            int l = in(0, 3);
            if (in(0, 4) > 0) {
                int who = in(0, 3);
                int own = o.kind[who];
                o.kind[who] = in(0, 5);
                int bu = o.behind(n, 0);
                int bl = o.behind(n, 1);
                o.kind[who] = own;
                if (bu > RopeDance.WRONG) {
                    u = bu;
                    l = bl;
                }
            }
            due("see(" + n + "," + u + "," + l + ")", x.see(n, u, l), o.see(n, u, l));
        }
    }
}
