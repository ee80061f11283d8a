/** What comes (free, reach, meet, ways, plain, comes, behind) at its bounds, a test for each sentence. */
public final class ComingBounds {
    private static final int BAD = Dances.BAD, NONE = Dances.NONE, WRONG = Dances.WRONG;
    private static final int TWIST = Dances.TWIST, BACK = Dances.BACK, TURN = Dances.TURN, REST = Dances.REST;
    private static final String PLAIN = "d0,0;";
    private static final String ALL_LAZY = "d0,2;d1,2;d2,2;d3,2;";
    private static final String ALL_EAGER = "d0,3;d1,3;d2,3;d3,3;";
    private static final String ALL_SHY = "d0,4;d1,4;d2,4;d3,4;";
    private static final String ALL_CROSS = "d0,1;d1,1;d2,1;d3,1;";

    public static void main(String[] args) {
        freeInNoneToSeven();
        freeTheFirst();
        freeByFiguresUpToTwo();
        freeNumbers();
        reachNumbers();
        reachTheFraction();
        meetNumbers();
        meetSideBySide();
        waysOfJustSoMany();
        waysNumbers();
        plainUpToSixty();
        plainNone();
        plainOfShyOnes();
        theRow();
        behindTheFirst();
        oneBehindTheOther();
        nothingElseIsDone();
        Asked.end();
    }

    /** A row as free, reach and meet tell it: how many, each of them, none behind. */
    private interface Told {
        int figure(int k);
    }

    private static void isRow(String what, Told told, int... figures) {
        Asked.due(what + ", how many", told.figure(-1), figures.length);
        for (int k = 0; k < 7; k++) {
            Asked.due(what + ", figure " + k, told.figure(k), k < figures.length ? figures[k] : NONE);
        }
    }

    private static void isNone(String what, Told told) {
        for (int k = -1; k < 7; k++) {
            Asked.due(what + ", figure " + k, told.figure(k), NONE);
        }
    }

    private static void freeInNoneToSeven() {
        Asked.under("of all rows of 0 to 7 FIGURES (0 to 2 alone) by which WOUND is 0 one with the fewest");
        for (int n = 0; n <= 8; n++) {
            RopeDance x = Dances.laid(PLAIN);
            Dances.times(x, n, TWIST);
            RopeDance y = Dances.laid(PLAIN);
            Dances.times(y, n, BACK);
            if (n == 8) {
                isNone("8 away", x::free);
                isNone("-8 away", y::free);
                continue;
            }
            int[] backs = new int[n];
            java.util.Arrays.fill(backs, BACK);
            isRow("from " + n, x::free, backs);
            isRow("from -" + n, y::free, new int[n]);
        }
        RopeDance x = Dances.laid(PLAIN);
        x.dance(TURN);
        isRow("from ENDLESS", x::free, TURN);
        Dances.dance(x, TURN, TWIST, TWIST, TWIST, TWIST, TWIST, TWIST, TURN);
        Dances.wound(x, -1, 6);
        isRow("from -1 by 6", x::free, TURN, BACK, BACK, BACK, BACK, BACK, BACK);
        x = Dances.laid(ALL_EAGER);
        Dances.dance(x, BACK, BACK);
        isRow("from -4 by EAGER ones", x::free, TWIST, TWIST);
        x = Dances.laid(ALL_CROSS);
        Dances.dance(x, BACK, BACK);
        isRow("from 2 by CROSS ones", x::free, TWIST, TWIST);
    }

    private static void freeTheFirst() {
        Asked.under("of several the first (by its first FIGURE, then the second, ..)");
        RopeDance x = Dances.laid(ALL_LAZY);
        x.dance(TWIST);
        // In BEATS of an odd number any of TWIST and BACK is nothing: the first of them is told.
        isRow("from 1 in BEAT 1", x::free, TWIST, BACK);
        Dances.dance(x, REST, TWIST);
        isRow("from 2 in BEAT 3", x::free, TWIST, BACK, TWIST, BACK);
        x = Dances.laid(PLAIN);
        isRow("either TWIST or BACK", k -> Dances.laid(PLAIN).meet(0, 2, k), TWIST);
        Dances.dance(x, BACK, BACK, TURN, TWIST);
        // 3 by 2: BACK, TURN and two TWISTs; a TURN first would be longer.
        Dances.wound(x, 3, 2);
        isRow("from 3 by 2", x::free, BACK, TURN, TWIST, TWIST);
    }

    private static void freeByFiguresUpToTwo() {
        Asked.under("FIGURES (0 to 2 alone)");
        RopeDance x = Dances.laid("d1,2;d0,1;d2,1;d3,1;");
        Dances.dance(x, REST, TWIST);
        // A REST would serve as well in BEAT 3; it is none of these.
        for (int k = 0; k < 7; k++) {
            Asked.so("no REST", x.free(k) != REST && x.reach(-2, 1, k) != REST && x.meet(0, 2, k) != REST);
        }
        x = Dances.laid(ALL_LAZY);
        x.dance(REST);
        RopeDance lazy = x;
        isRow("a nothing by TWIST, not by REST", k -> lazy.reach(1, 1, k), TWIST, TWIST);
        Asked.due("ways(1): TWIST and BACK, not REST", x.ways(1), 2);
    }

    private static void freeNumbers() {
        Asked.under("FREE: how many FIGURES (k = -1), the k-th. NONE: also not so many. BAD: k below -1, above 6, too.");
        for (int state = 0; state < 3; state++) {
            RopeDance x = Dances.laid(PLAIN);
            Dances.times(x, new int[] {0, 7, 9}[state], TWIST);
            int[] told = {0, 7, NONE};
            Asked.due("free(-1)", x.free(-1), told[state]);
            Asked.due("free(6)", x.free(6), state == 1 ? BACK : NONE);
            for (int k : new int[] {-2, 7, -3, 8, Dances.LEAST, Dances.GREATEST}) {
                Asked.due("free(" + k + ")", x.free(k), BAD);
            }
        }
    }

    private static void reachNumbers() {
        Asked.under("REACH of u by l (-99 to 99 by 1 to 99, in lowest terms, or 1 by 0: ENDLESS), likewise. NONE; BAD.");
        for (int u = -101; u <= 101; u++) {
            RopeDance x = new RopeDance();
            for (int l = -2; l <= 101; l++) {
                Asked.so("reach(" + u + ", " + l + ", 6)", (x.reach(u, l, 6) == BAD) == !Dances.isTold(u, l));
            }
        }
        RopeDance x = Dances.laid(PLAIN);
        int[] far = {Dances.LEAST, Dances.LEAST + 1, -100, 100, Dances.GREATEST};
        for (int number : far) {
            Asked.due("reach(" + number + ", 1, -1)", x.reach(number, 1, -1), BAD);
            Asked.due("reach(1, " + number + ", -1)", x.reach(1, number, -1), BAD);
            Asked.due("reach(" + number + ", " + number + ", -1)", x.reach(number, number, -1), BAD);
            Asked.due("reach(" + number + ", 0, -1)", x.reach(number, 0, -1), BAD);
        }
        for (int k : new int[] {-2, 7, Dances.LEAST, Dances.GREATEST}) {
            Asked.due("reach(0, 1, " + k + ")", x.reach(0, 1, k), BAD);
            Asked.due("reach(99, 98, " + k + ")", x.reach(99, 98, k), BAD);
            Asked.due("reach(2, 2, " + k + ")", x.reach(2, 2, k), BAD);
        }
        for (int[] corner : new int[][] {{-99, 1}, {99, 1}, {1, 99}, {-1, 99}, {99, 98}, {98, 99}, {-98, 99}, {-99, 98}}) {
            isNone("reach of " + corner[0] + " by " + corner[1], k -> x.reach(corner[0], corner[1], k));
        }
    }

    private static void reachTheFraction() {
        Asked.under("REACH, likewise, U by L");
        RopeDance x = Dances.laid(PLAIN);
        isRow("0 by 1 at once", k -> x.reach(0, 1, k));
        isRow("ENDLESS", k -> x.reach(1, 0, k), TURN);
        isRow("7", k -> x.reach(7, 1, k), 0, 0, 0, 0, 0, 0, 0);
        isNone("8", k -> x.reach(8, 1, k));
        isRow("-1 by 6", k -> x.reach(-1, 6, k), 0, 0, 0, 0, 0, 0, TURN);
        isNone("-1 by 7", k -> x.reach(-1, 7, k));
        isRow("1 by 6", k -> x.reach(1, 6, k), 1, 1, 1, 1, 1, 1, TURN);
        x.dance(TURN);
        isRow("ENDLESS at once", k -> x.reach(1, 0, k));
        isRow("0 from ENDLESS", k -> x.reach(0, 1, k), TURN);
        RopeDance y = Dances.laid(PLAIN);
        Dances.times(y, 99, TWIST);
        isRow("99 at once", k -> y.reach(99, 1, k));
        y.dance(TWIST);
        isRow("99 from 100", k -> y.reach(99, 1, k), BACK);
        Asked.due("100 is none that is told", y.reach(100, 1, -1), BAD);
        RopeDance z = Dances.laid(PLAIN);
        Dances.times(z, 99, BACK);
        isRow("-99 at once", k -> z.reach(-99, 1, k));
        isRow("1 by 99", k -> z.reach(1, 99, k), TURN);
        // An odd number can not be reached by EAGER ones but by a TURN.
        RopeDance e = Dances.laid(ALL_EAGER);
        isRow("2 by EAGER ones", k -> e.reach(2, 1, k), TWIST);
        isNone("1 by EAGER ones", k -> e.reach(1, 1, k));
    }

    private static void meetNumbers() {
        Asked.under("MEET of two DANCERS, likewise. NONE; BAD: alike, too.");
        RopeDance x = Dances.laid(ALL_EAGER);
        for (int i = -1; i < 5; i++) {
            for (int j = -1; j < 5; j++) {
                boolean is = i >= 0 && j >= 0 && i < 4 && j < 4 && i != j;
                int want = !is ? BAD : (i + j) % 2 == 0 ? NONE : 0;
                Asked.due("meet(" + i + ", " + j + ", -1)", x.meet(i, j, -1), want);
            }
        }
        for (int far : new int[] {Dances.LEAST, Dances.GREATEST}) {
            Asked.due("meet(far, 0, 0)", x.meet(far, 0, 0), BAD);
            Asked.due("meet(0, far, 0)", x.meet(0, far, 0), BAD);
            Asked.due("meet(far, far, 0)", x.meet(far, far, 0), BAD);
        }
        for (int k : new int[] {-2, 7, Dances.LEAST, Dances.GREATEST}) {
            Asked.due("meet(0, 1, " + k + ")", x.meet(0, 1, k), BAD);
            Asked.due("meet(0, 2, " + k + "), of none", x.meet(0, 2, k), BAD);
            Asked.due("meet(1, 1, " + k + ")", x.meet(1, 1, k), BAD);
        }
    }

    private static void meetSideBySide() {
        Asked.under("MEET, likewise, that two DANCERS stand side by side (PLACES 0 and 1, 1 and 2, 2 and 3, 3 and 0)");
        RopeDance x = Dances.laid("p0,2;p2,0;");
        int[] order = {2, 1, 0, 3};
        for (int p = 0; p < 4; p++) {
            int one = order[p];
            int next = order[(p + 1) % 4];
            int across = order[(p + 2) % 4];
            isRow("side by side", k -> x.meet(one, next, k));
            isRow("side by side", k -> x.meet(next, one, k));
            isRow("across", k -> x.meet(one, across, k), TWIST);
        }
        // Who leads does it twice or, of a SHY one, nothing till all have gone on.
        isRow("an EAGER one leads", k -> Dances.laid("d1,3;").meet(0, 2, k), TURN, TWIST);
        RopeDance y = Dances.laid(ALL_SHY);
        y.dance(TURN);
        isRow("a SHY one leads", k -> y.meet(0, 2, k), TURN, TWIST);
        // Of three EAGER ones and a LAZY one: the LAZY one must lead in an even BEAT.
        RopeDance z = Dances.laid("d0,2;d1,3;d2,3;d3,3;");
        isRow("the LAZY one leads in BEAT 2", k -> z.meet(0, 2, k), TWIST, TURN, TWIST);
    }

    private static void waysOfJustSoMany() {
        Asked.under("WAYS: how many rows of just n (0 to 7) FIGURES (0 to 2) there are by which WOUND is 0.");
        RopeDance x = Dances.laid(PLAIN);
        Asked.due("ways(0) of 0", x.ways(0), 1);
        Asked.due("ways(1) of 0", x.ways(1), 0);
        Asked.due("ways(2) of 0", x.ways(2), 3);
        Asked.due("ways(3) of 0", x.ways(3), 4);
        for (int n = 0; n <= 7; n++) {
            for (int deeds = 1; deeds <= 9; deeds++) {
                RopeDance y = Dances.laid(PLAIN);
                Dances.times(y, deeds, TWIST);
                if (n <= deeds) {
                    Asked.due("ways(" + n + ") of " + deeds, y.ways(n), n == deeds ? 1 : 0);
                }
                Oracle o = Oracle.laid(PLAIN);
                for (int k = 0; k < deeds; k++) {
                    o.dance(TWIST);
                }
                Asked.due("ways(" + n + ") of " + deeds, y.ways(n), o.ways(n));
            }
        }
        x.dance(TURN);
        Asked.due("ways(0) of ENDLESS", x.ways(0), 0);
        Asked.due("ways(1) of ENDLESS", x.ways(1), 1);
        Asked.due("ways(2) of ENDLESS", x.ways(2), 2);
        RopeDance lazy = Dances.laid(ALL_LAZY);
        lazy.dance(REST);
        Asked.due("ways(1) of LAZY ones in BEAT 1", lazy.ways(1), 2);
        Asked.due("ways(0) of 0", lazy.ways(0), 1);
    }

    private static void waysNumbers() {
        Asked.under("WAYS. BAD.");
        RopeDance x = new RopeDance();
        for (int n = -3; n <= 10; n++) {
            Asked.so("ways(" + n + ")", (x.ways(n) == BAD) == (n < 0 || n > 7));
        }
        Asked.due("ways(least)", x.ways(Dances.LEAST), BAD);
        Asked.due("ways(greatest)", x.ways(Dances.GREATEST), BAD);
    }

    private static void plainUpToSixty() {
        Asked.under("as long as WOUND is not 0: below 0 a TWIST, else a TURN: how many FIGURES till it is 0"
                + " (1 to 60; 0 if it is); none");
        RopeDance x = Dances.laid(PLAIN);
        Asked.due("plain() of 0", x.plain(), 0);
        for (int n = 1; n <= 62; n++) {
            x.dance(BACK);
            Asked.due("plain() of -" + n, x.plain(), n <= 60 ? n : NONE);
        }
        x.lay();
        x.dance(TURN);
        Asked.due("plain() of ENDLESS, else a TURN", x.plain(), 1);
        x.lay();
        // From n by TURN to -1 by n, TWIST to n - 1 by n, TURN to -n by n - 1, TWIST to -1 by n - 1: 3 a step.
        for (int n = 1; n <= 22; n++) {
            x.dance(TWIST);
            Asked.due("plain() of " + n, x.plain(), 3 * n - 1 <= 60 ? 3 * n - 1 : NONE);
        }
        x.lay();
        // From -n by a TURN to 1 by n, and then back to -n by its own TURN first.
        for (int n = 1; n <= 60; n++) {
            x.dance(BACK);
        }
        x.dance(TURN);
        Asked.due("plain() of 1 by 60", x.plain(), NONE);
        x.undo();
        x.undo();
        x.dance(TURN);
        Asked.due("plain() of 1 by 59", x.plain(), 60);
    }

    private static void plainNone() {
        Asked.under("PLAIN WAY. NONE.");
        RopeDance x = Dances.laid(ALL_CROSS);
        x.dance(TWIST);
        Asked.due("CROSS ones go further away", x.plain(), NONE);
        Dances.wound(x, -1, 1);
        x = Dances.laid(ALL_LAZY);
        x.dance(BACK);
        Asked.due("LAZY ones, a nothing in BEAT 1 first", x.plain(), 2);
        for (int n = 1; n < 30; n++) {
            Dances.dance(x, REST, BACK);
        }
        Asked.due("LAZY ones, -30 in BEAT 59", x.plain(), 60);
        Dances.dance(x, REST, BACK);
        Asked.due("LAZY ones, -31", x.plain(), NONE);
        x = Dances.laid(ALL_EAGER);
        for (int n = 1; n <= 61; n++) {
            x.dance(BACK);
            Asked.due("EAGER ones, -" + 2 * n, x.plain(), n <= 60 ? n : NONE);
        }
    }

    private static void plainOfShyOnes() {
        Asked.under("how many FIGURES till it is 0 (1 to 60; 0 if it is); none");
        RopeDance x = Dances.laid(ALL_SHY);
        Dances.dance(x, TWIST, TURN);
        Dances.wound(x, -1, 1);
        Dances.ropes(x, 1, 0, 1, 0);
        Asked.due("SHY ones, the ROPES differ: a TWIST", x.plain(), 1);
        x.put(x.place(1, 0), x.place(3, 0));
        Asked.due("a PUT leaves the ends where they are", x.plain(), 1);
        x = Dances.laid(ALL_SHY);
        Dances.dance(x, TWIST, TWIST, TURN);
        Dances.wound(x, -1, 2);
        Dances.ropes(x, 1, 0, 0, 1);
        Asked.due("SHY ones of one ROPE do nothing for ever", x.plain(), NONE);
        x.dance(TURN);
        Dances.wound(x, 2, 1);
        Asked.due("a TURN, to where it is so again", x.plain(), NONE);
    }

    private static void theRow() {
        Asked.under("THE ROW: how many can be danced (what = 0), who stands at PLACE 0 then (1). BAD.");
        RopeDance x = Dances.laid("p0,2;p2,0;");
        Asked.due("comes(0) of no ROW", x.comes(0), 0);
        Asked.due("comes(1) of no ROW", x.comes(1), 2);
        for (int n = 1; n <= 12; n++) {
            x = Dances.laid("r2;".repeat(n));
            Asked.due("comes(0) of " + n, x.comes(0), n);
            Asked.due("comes(1) of " + n, x.comes(1), (12 - n) % 4);
        }
        for (int what : new int[] {-1, 2, Dances.LEAST, Dances.GREATEST}) {
            Asked.due("comes(" + what + ")", x.comes(what), BAD);
            Asked.due("comes(" + what + ") of no ROW", Dances.laid(PLAIN).comes(what), BAD);
        }
        Asked.under("THE ROW, danced from now on");
        x = Dances.laid("r2;");
        x.dance(TURN);
        Asked.due("comes(1) behind a TURN", x.comes(1), 2);
        Asked.due("behind(1, 0)", x.behind(1, 0), 0);
        Asked.due("behind(0, 1)", x.behind(0, 1), 0);
    }

    private static void behindTheFirst() {
        Asked.under("WOUND behind the first n (0 to 12) FIGURES of THE ROW (as many as there are): U (what = 0), L (1).");
        RopeDance x = Dances.laid("r0;".repeat(12));
        RopeDance y = Dances.laid("r0;r0;r0;");
        RopeDance z = Dances.laid(PLAIN);
        for (int n = 0; n <= 12; n++) {
            Asked.due("behind(" + n + ", 0) of 12", x.behind(n, 0), n);
            Asked.due("behind(" + n + ", 0) of 3", y.behind(n, 0), Math.min(n, 3));
            Asked.due("behind(" + n + ", 0) of none", z.behind(n, 0), 0);
            Asked.due("behind(" + n + ", 1)", x.behind(n, 1), 1);
        }
        for (int far : new int[] {-1, 13, Dances.LEAST, Dances.GREATEST}) {
            Asked.due("behind(" + far + ", 0)", x.behind(far, 0), WRONG);
            Asked.due("behind(" + far + ", 2)", x.behind(far, 2), WRONG);
        }
        for (int what : new int[] {-1, 2, Dances.LEAST, Dances.GREATEST}) {
            Asked.due("behind(12, " + what + ")", x.behind(12, what), WRONG);
        }
        x.dance(TURN);
        Asked.due("behind(12, 0) of ENDLESS", x.behind(12, 0), 1);
        Asked.due("behind(12, 1) of ENDLESS", x.behind(12, 1), 0);
        y.dance(BACK);
        Asked.due("behind(0, 0), a number like BAD", y.behind(0, 0), -1);
    }

    /** What one call sought leaves no trace in what the next one seeks. */
    private static void oneBehindTheOther() {
        Asked.under("FREE: how many FIGURES (k = -1), the k-th.");
        RopeDance x = Dances.laid(PLAIN);
        Dances.dance(x, TWIST, TWIST);
        for (int round = 0; round < 2; round++) {
            isRow("meet", k -> x.meet(0, 2, k), TWIST);
            isRow("free", x::free, BACK, BACK);
            Asked.due("meet", x.meet(0, 1, -1), 0);
            isRow("reach", k -> x.reach(-1, 2, k), TURN);
            Asked.due("meet", x.meet(0, 1, -1), 0);
            Asked.due("ways(2)", x.ways(2), 1);
            Asked.due("meet", x.meet(0, 1, -1), 0);
            Asked.due("odds(0, 0, 0)", x.odds(0, 0, 0), 0);
            isNone("reach", k -> x.reach(50, 1, k));
            isRow("free", x::free, BACK, BACK);
        }
    }

    private static void nothingElseIsDone() {
        Asked.under("What comes from how all stands now, nothing else being done");
        RopeDance x = Dances.laid("d0,5;d1,2;r0;r1;r2;");
        RopeDance y = Dances.laid("d0,5;d1,2;r0;r1;r2;");
        for (RopeDance z : new RopeDance[] {x, y}) {
            Dances.dance(z, TWIST, TURN, TWIST, TWIST);
            z.keep();
            z.put(1, 2);
            z.see(2, 1, 2);
        }
        for (int k = -1; k < 7; k++) {
            x.free(k);
            x.reach(3, 2, k);
            x.meet(0, 2, k);
            x.ways(k);
            x.comes(k);
            x.behind(k, 0);
        }
        x.plain();
        Asked.so("nothing has changed", Dances.drained(x).equals(Dances.drained(y)));
    }
}
