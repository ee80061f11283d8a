/** Which it was (see, forget, kinds, look, danced) at its bounds, a test for each sentence. */
public final class SeenBounds {
    private static final int BAD = Dances.BAD, FULL = Dances.FULL, NONE = Dances.NONE;
    private static final int TWIST = Dances.TWIST, BACK = Dances.BACK, TURN = Dances.TURN, REST = Dances.REST;
    private static final int ALL = 63;

    public static void main(String[] args) {
        seenNumbers();
        seenSix();
        seenBehindSoMany();
        seenFromNowOn();
        forget();
        kindsNumbers();
        kindsByAllThatIsSeen();
        kindsInPlaceOfItsOwn();
        lookNumbers();
        lookForTheLast();
        lookByBothParts();
        lookFirstOfSeveral();
        lookNone();
        dancedNumbers();
        dancedByPlainOnes();
        dancedBehindOtherCalls();
        Asked.end();
    }

    private static void seenNumbers() {
        Asked.under("SEEN, u by l as for reach(): how much. BAD; FULL.");
        for (int u = -101; u <= 101; u++) {
            RopeDance x = new RopeDance();
            for (int l = -2; l <= 101; l++) {
                Asked.due("see(0, " + u + ", " + l + ")", x.see(0, u, l), Dances.isTold(u, l) ? 1 : BAD);
                Asked.due("forget()", x.forget(), Dances.isTold(u, l) ? 1 : 0);
            }
        }
        RopeDance x = new RopeDance();
        for (int far : new int[] {Dances.LEAST, Dances.LEAST + 1, -100, 100, Dances.GREATEST}) {
            Asked.due("see(0, " + far + ", 1)", x.see(0, far, 1), BAD);
            Asked.due("see(0, 1, " + far + ")", x.see(0, 1, far), BAD);
            Asked.due("see(0, " + far + ", " + far + ")", x.see(0, far, far), BAD);
            Asked.due("see(" + far + ", 0, 1)", x.see(far, 0, 1), BAD);
        }
        Asked.due("see(-1, 0, 1)", x.see(-1, 0, 1), BAD);
        Asked.due("see(13, 0, 1)", x.see(13, 0, 1), BAD);
        Asked.due("count(5)", x.count(5), 0);
        Asked.due("see(0, 0, 1)", x.see(0, 0, 1), 1);
        Asked.due("see(12, 0, 1)", x.see(12, 0, 1), 2);
    }

    private static void seenSix() {
        Asked.under("SEEN (6 at most)");
        RopeDance x = Dances.laid("r0;");
        for (int n = 1; n <= 6; n++) {
            Asked.due("see, the " + n + "th", x.see(0, 0, 1), n);
            Asked.due("count(5)", x.count(5), n);
        }
        for (int n = 0; n < 3; n++) {
            Asked.due("see, one more", x.see(1, 2, 1), FULL);
        }
        Asked.due("count(5)", x.count(5), 6);
        Asked.due("kinds(1): what was refused is not SEEN", x.kinds(1), ALL);
        Asked.due("BAD goes before FULL", x.see(13, 0, 1), BAD);
        Asked.due("BAD goes before FULL", x.see(0, 2, 2), BAD);
        Asked.due("forget()", x.forget(), 6);
        Asked.due("see", x.see(1, 2, 1), 1);
        Asked.due("kinds(1), EAGER", x.kinds(1), 8);
    }

    /** An EAGER one alone makes 2 of each of the FIGURES; who is PLAIN takes the lead in turn. */
    private static void seenBehindSoMany() {
        Asked.under("behind the first n (0 to 12) FIGURES of THE ROW (as many as there are of it, if there are fewer;");
        RopeDance x = Dances.laid("r0;".repeat(12));
        for (int n = 0; n <= 12; n++) {
            x.forget();
            x.see(n, 2 * n, 1);
            Asked.due("kinds(1) by see(" + n + ", " + 2 * n + ", 1)", x.kinds(1), n == 0 ? ALL : 8);
        }
        RopeDance y = Dances.laid("r0;r0;r0;");
        for (int n = 0; n <= 12; n++) {
            y.forget();
            y.see(n, 2 * Math.min(n, 3), 1);
            Asked.due("kinds(1) of 3 by see(" + n + ")", y.kinds(1), n == 0 ? ALL : 8);
            y.see(n, 2 * n + 1, 1);
            Asked.due("kinds(1) of none", y.kinds(1), 0);
        }
        RopeDance z = Dances.laid("d0,0;");
        z.see(12, 0, 1);
        Asked.due("kinds(0) of no ROW", z.kinds(0), ALL);
        z.see(12, 1, 1);
        Asked.due("kinds(0) of no ROW", z.kinds(0), 0);
    }

    private static void seenFromNowOn() {
        Asked.under("SEEN (6 at most) is that behind the first n (0 to 12) FIGURES of THE ROW");
        RopeDance x = Dances.laid("r0;");
        x.see(1, 2, 1);
        Asked.due("kinds(1)", x.kinds(1), 8);
        x.dance(TWIST);
        Asked.due("kinds(2), who leads now: all but CROSS and EAGER ones", x.kinds(2), ALL - 2 - 4 - 8);
        x.undo();
        Asked.due("kinds(1), as before", x.kinds(1), 8);
        x.dance(TURN);
        x.forget();
        x.see(1, 1, 0);
        Asked.due("kinds(0) of ENDLESS", x.kinds(0), ALL);
    }

    private static void forget() {
        Asked.under("Nothing is SEEN: how much was.");
        RopeDance x = Dances.laid("r0;");
        Asked.due("forget() of none", x.forget(), 0);
        for (int n = 0; n <= 6; n++) {
            for (int k = 0; k < n; k++) {
                x.see(1, -1, 1);
            }
            Asked.due("kinds(1)", x.kinds(1), n == 0 ? ALL : 2);
            Asked.due("forget()", x.forget(), n);
            Asked.due("count(5)", x.count(5), 0);
            Asked.due("kinds(1)", x.kinds(1), ALL);
        }
        Asked.due("forget() once more", x.forget(), 0);
    }

    private static void kindsNumbers() {
        Asked.under("KINDS, as bits. BAD.");
        RopeDance x = new RopeDance();
        for (int i = -2; i <= 5; i++) {
            Asked.due("kinds(" + i + ")", x.kinds(i), i >= 0 && i <= 3 ? ALL : BAD);
        }
        Asked.due("kinds(least)", x.kinds(Dances.LEAST), BAD);
        Asked.due("kinds(greatest)", x.kinds(Dances.GREATEST), BAD);
        x.see(0, 1, 1);
        for (int i = -2; i <= 5; i++) {
            Asked.due("kinds(" + i + ") of none", x.kinds(i), i >= 0 && i <= 3 ? 0 : BAD);
        }
    }

    private static void kindsByAllThatIsSeen() {
        Asked.under("by which all that is SEEN is so");
        for (int wrong = 0; wrong < 6; wrong++) {
            RopeDance x = Dances.laid("r0;r3;");
            for (int n = 0; n < 6; n++) {
                x.see(n == wrong ? 2 : 0, n == wrong ? -1 : 0, 1);
            }
            Asked.due("kinds(1) by the " + wrong + "th of six", x.kinds(1), 2);
            Asked.due("kinds(0), who never leads", x.kinds(0), 0);
        }
        // Each KIND by what it does: a BACK ahead, the lead in BEAT 3, beside the same ROPE or the other one.
        RopeDance x = Dances.laid("r0;");
        Dances.dance(x, BACK, TURN, TURN);
        Dances.letLead(x, 0);
        Dances.wound(x, -1, 1);
        int[] behind = {0, -2, -1, 1, 0, -2};
        for (int kind = 0; kind < 6; kind++) {
            x.forget();
            x.see(1, behind[kind], 1);
            int want = 0;
            for (int other = 0; other < 6; other++) {
                want |= behind[other] == behind[kind] ? 1 << other : 0;
            }
            Asked.due("kinds(0) by " + behind[kind], x.kinds(0), want);
        }
        RopeDance y = Dances.laid("r0;r2;");
        Dances.dance(y, TWIST, TWIST, TURN);
        Dances.ropes(y, 1, 0, 0, 1);
        y.dance(REST);
        y.see(2, 2, 1);
        Asked.due("SHY alone beside its own ROPE in BEAT 4", y.kinds(0), 16);
    }

    private static void kindsInPlaceOfItsOwn() {
        Asked.under("KINDS of a DANCER (bits of 0 to 5), in place of its own");
        for (int own = 0; own < 6; own++) {
            RopeDance x = Dances.laid("d1," + own + ";r0;");
            Asked.due("kinds(1), nothing SEEN", x.kinds(1), ALL);
            x.see(1, 2, 1);
            Asked.due("kinds(1), its own " + own, x.kinds(1), 8);
            Asked.due("kinds(2), the other's own " + own, x.kinds(2), own == 3 ? ALL : 0);
            Asked.due("dancer(1, 0) stays", x.dancer(1, 0), own);
        }
    }

    private static void lookNumbers() {
        Asked.under("LOOK: the n (what = 0), the greatest part (1). NONE; BAD.");
        RopeDance x = Dances.laid("r0;");
        for (int i = -2; i <= 5; i++) {
            for (int what = -2; what <= 3; what++) {
                boolean is = i >= 0 && i <= 3 && what >= 0 && what <= 1;
                int want = what == 0 ? 1 : i == 1 ? 4 : 6;
                Asked.due("look(" + i + ", " + what + ")", x.look(i, what), is ? want : BAD);
            }
        }
        for (int far : new int[] {Dances.LEAST, Dances.GREATEST}) {
            Asked.due("look(far, 0)", x.look(far, 0), BAD);
            Asked.due("look(0, far)", x.look(0, far), BAD);
        }
        x.see(0, 1, 1);
        Asked.due("look(4, 0): BAD goes before NONE", x.look(4, 0), BAD);
        Asked.due("look(0, 2): BAD goes before NONE", x.look(0, 2), BAD);
    }

    private static void lookForTheLast() {
        Asked.under("the n (1 to 12) by which these are told apart best by WOUND behind the first n FIGURES of THE ROW");
        for (int at = 1; at <= 12; at++) {
            RopeDance x = Dances.laid("r3;".repeat(at - 1) + "r0;");
            // PLAIN, SHY and STUBBORN alike, a LAZY one with them in BEATS of an even number.
            Asked.due("look(1, 0)", x.look(1, 0), at);
            Asked.due("look(1, 1)", x.look(1, 1), at % 2 == 1 ? 4 : 3);
        }
        // LAZY and EAGER ones lead again behind the first TWIST: 4 by 1 for EAGER, 1 by 1 for LAZY; then the rest part.
        RopeDance x = Dances.laid("r3;r0;r2;r0;r0;");
        Oracle o = Oracle.laid("r3;r0;r2;r0;r0;");
        for (int i = 0; i < 4; i++) {
            Asked.due("look(" + i + ", 0)", x.look(i, 0), o.look(i, 0));
            Asked.due("look(" + i + ", 1)", x.look(i, 1), o.look(i, 1));
        }
    }

    /** By U and L, not by one of them or by their sum: 1 by 2 and 2 by 1 are told apart. */
    private static void lookByBothParts() {
        Asked.under("told apart best by WOUND");
        RopeDance x = Dances.laid("r0;r0;r2;r1;r2;r2;r0;");
        Asked.due("look(2, 0): all six are told apart by the last", x.look(2, 0), 7);
        Asked.due("look(2, 1)", x.look(2, 1), 1);
        x = Dances.laid("r0;r2;r2;r0;r2;r1;r0;");
        Asked.due("look(1, 0)", x.look(1, 0), 6);
        Asked.due("look(1, 1)", x.look(1, 1), 2);
        x = Dances.laid("r0;r0;r0;r2;r1;r0;");
        Asked.due("look(2, 0)", x.look(2, 0), 6);
        Asked.due("look(2, 1)", x.look(2, 1), 2);
        x = Dances.laid("r1;r2;r0;");
        Asked.due("look(1, 0)", x.look(1, 0), 1);
        Asked.due("look(1, 1)", x.look(1, 1), 4);
    }

    private static void lookFirstOfSeveral() {
        Asked.under("the greatest part that tells alike is least, the first of several");
        RopeDance x = Dances.laid("r3;r3;r0;r3;r3;");
        Asked.due("look(1, 0): 3, 4 and 5 tell as much", x.look(1, 0), 3);
        Asked.due("look(1, 1)", x.look(1, 1), 4);
        x = Dances.laid("d0,0;");
        Asked.due("look(1, 0) of no ROW", x.look(1, 0), 1);
        Asked.due("look(1, 1) of no ROW", x.look(1, 1), 6);
        x = Dances.laid(Dances.TWELVE);
        Asked.due("look(0, 0)", x.look(0, 0), Oracle.laid(Dances.TWELVE).look(0, 0));
        x = Dances.laid("r2;r2;r0;");
        Asked.due("look(1, 1): dancer 1 never leads", x.look(1, 1), 6);
        Asked.due("look(1, 0)", x.look(1, 0), 1);
        x = Dances.laid("r0;r3;r3;r0;");
        x.see(1, 1, 1);
        // PLAIN, LAZY, SHY, STUBBORN are left, and are alike all the way, dancer 2 leading at last.
        Asked.due("look(1, 0)", x.look(1, 0), 1);
        Asked.due("look(1, 1)", x.look(1, 1), 4);
    }

    private static void lookNone() {
        Asked.under("none, if one of them is left at most");
        RopeDance x = Dances.laid("r3;r0;r3;");
        for (int what = 0; what < 2; what++) {
            Asked.due("six left", x.look(1, what), what == 0 ? 2 : 3);
            x.see(2, -1, 1);
            Asked.due("one left", x.kinds(1), 2);
            Asked.due("look of one left", x.look(1, what), NONE);
            x.see(2, 1, 1);
            Asked.due("none left", x.kinds(1), 0);
            Asked.due("look of none left", x.look(1, what), NONE);
            x.forget();
        }
        x = Dances.laid("r0;");
        Dances.dance(x, BACK, REST);
        Dances.letLead(x, 1);
        x.see(1, -2, 1);
        Asked.due("two left", x.kinds(1), 2 + 32);
        Asked.due("look(1, 0) of two left", x.look(1, 0), 1);
        Asked.due("look(1, 1) of two left", x.look(1, 1), 2);
    }

    private static void dancedNumbers() {
        Asked.under("DANCED. BAD.");
        RopeDance x = new RopeDance();
        for (int n = -3; n <= 10; n++) {
            Asked.so("danced(" + n + ")", (x.danced(n) == BAD) == (n < 0 || n > 7));
        }
        Asked.due("danced(least)", x.danced(Dances.LEAST), BAD);
        Asked.due("danced(greatest)", x.danced(Dances.GREATEST), BAD);
    }

    private static void dancedByPlainOnes() {
        Asked.under("of all rows of just n (0 to 7) FIGURES (0 to 2), danced from how it was LAID by PLAIN DANCERS,"
                + " how many make WOUND what it is now");
        for (int kind = 0; kind < 6; kind++) {
            String text = "d0," + kind + ";d1," + kind + ";d2," + kind + ";d3," + kind + ";p0,1;p1,0;";
            RopeDance x = Dances.laid(text);
            Asked.due("danced(0) of 0", x.danced(0), 1);
            Asked.due("danced(1) of 0", x.danced(1), 0);
            Asked.due("danced(2) of 0", x.danced(2), 3);
            Asked.due("danced(3) of 0", x.danced(3), 4);
            Dances.dance(x, REST, TURN);
            Asked.due("danced(0) of ENDLESS", x.danced(0), 0);
            Asked.due("danced(1) of ENDLESS", x.danced(1), 1);
            Asked.due("danced(2) of ENDLESS", x.danced(2), 2);
        }
        RopeDance x = Dances.laid("d0,0;");
        for (int u = 1; u <= 9; u++) {
            x.dance(TWIST);
            for (int n = 0; n <= Math.min(u, 7); n++) {
                Asked.due("danced(" + n + ") of " + u, x.danced(n), n == u ? 1 : 0);
            }
        }
        x = Dances.laid("d0,3;d1,3;d2,3;d3,3;");
        x.dance(BACK);
        // -2, which EAGER ones make at once: PLAIN ones by two, or by BACK TURN and their like behind a TURN.
        Asked.due("danced(1) of -2", x.danced(1), 0);
        Asked.due("danced(2) of -2", x.danced(2), 1);
        Dances.dance(x, BACK, BACK, BACK, TURN, BACK, TURN, BACK, TURN);
        Asked.due("danced(7) of what no 7 can make", x.danced(7), 0);
    }

    /** From how it was LAID, whatever was danced or tried out since then, and whoever stands where. */
    private static void dancedBehindOtherCalls() {
        Asked.under("danced from how it was LAID by PLAIN DANCERS");
        String text = "d0,1;d1,5;d2,3;d3,2;r0;r2;r1;";
        RopeDance x = Dances.laid(text);
        Oracle o = Oracle.laid(text);
        int[] figures = {BACK, TURN, TWIST, REST, TURN, BACK, TWIST, TURN, TURN, BACK};
        for (int figure : figures) {
            x.dance(figure);
            o.dance(figure);
            x.put(0, 3);
            o.put(0, 3);
            for (int n = 0; n <= 7; n++) {
                x.ways(3);
                x.comes(0);
                Asked.due("danced(" + n + ")", x.danced(n), o.danced(n));
                x.meet(0, 1, 0);
                Asked.due("danced(" + n + ") behind meet", x.danced(n), o.danced(n));
            }
        }
    }
}
