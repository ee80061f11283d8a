import java.math.BigInteger;

/** By turns, FORGOTTEN and AN EVENING at their bounds, a test for each sentence. */
public final class TurnsBounds {
    private static final int BAD = Dances.BAD;
    private static final int TWIST = Dances.TWIST, BACK = Dances.BACK, TURN = Dances.TURN, REST = Dances.REST;

    public static void main(String[] args) {
        turnsNumbers();
        turnsNoneToFive();
        turnsByKind();
        oddsNumbers();
        oddsAllOrNone();
        oddsLowestTerms();
        oddsAsManyAsThereAre();
        oddsOfLazyOnes();
        eveningNumbers();
        eveningDraws();
        eveningPuts();
        eveningGoesOn();
        nothingIsChanged();
        Asked.end();
    }

    private static void turnsNumbers() {
        Asked.under("By turns: how great it is. BAD.");
        RopeDance x = new RopeDance();
        for (int n = -3; n <= 8; n++) {
            Asked.so("duel(" + n + ")", (x.duel(n) == BAD) == (n < 0 || n > 5));
        }
        Asked.due("duel(least)", x.duel(Dances.LEAST), BAD);
        Asked.due("duel(greatest)", x.duel(Dances.GREATEST), BAD);
    }

    private static void turnsNoneToFive() {
        Asked.under("By turns, n (0 to 5) in all, one dances TWIST, TURN or REST, then another one BACK, TURN or REST,"
                + " and so on");
        RopeDance x = Dances.laid("d0,0;");
        Asked.due("duel(0) of 0 by 1", x.duel(0), 1);
        Asked.due("duel(1) of 0 by 1", x.duel(1), 1);
        x.dance(TURN);
        Asked.due("duel(0) of ENDLESS", x.duel(0), 1);
        Asked.due("duel(1) of ENDLESS", x.duel(1), 1);
        x.lay();
        Dances.times(x, 3, TWIST);
        Asked.due("duel(0) of 3", x.duel(0), 3);
        Asked.due("duel(1) of 3, a TWIST", x.duel(1), 4);
        // A TWIST is answered by a BACK, a TURN (-1 by 3) by a REST, a REST by a BACK.
        Asked.due("duel(2) of 3", x.duel(2), 3);
        x.lay();
        Dances.times(x, 3, BACK);
        Asked.due("duel(0) of -3, without sign", x.duel(0), 3);
        // A TWIST would make it less: a REST.
        Asked.due("duel(1) of -3", x.duel(1), 3);
        x.dance(TURN);
        Asked.due("duel(0) of 1 by 3: L is the greater part", x.duel(0), 3);
        Asked.due("duel(1) of 1 by 3: 4 by 3", x.duel(1), 4);
        for (int start = 0; start < 27; start++) {
            int[] figures = {start % 3, start / 3 % 3, start / 9, TWIST};
            Oracle o = Oracle.laid("d0,0;", figures);
            x.lay();
            Dances.dance(x, figures);
            for (int n = 0; n <= 5; n++) {
                Asked.due("duel(" + n + ") from start " + start, x.duel(n), o.duel(n));
            }
        }
    }

    private static void turnsByKind() {
        Asked.under("the first wanting the greater part of U and L (without sign) to be much, the other one little");
        RopeDance x = Dances.laid("d0,1;d1,1;d2,1;d3,1;");
        Dances.times(x, 2, TWIST);
        Asked.due("duel(1) of CROSS ones at -2", x.duel(1), 3);
        x.lay();
        Dances.times(x, 2, BACK);
        Asked.due("duel(1) of CROSS ones at 2", x.duel(1), 2);
        x = Dances.laid("d0,3;d1,3;d2,3;d3,3;");
        Dances.times(x, 2, TWIST);
        Asked.due("duel(1) of EAGER ones at 4", x.duel(1), 6);
        x = Dances.laid("d0,2;d1,2;d2,2;d3,2;");
        x.dance(TWIST);
        Asked.due("duel(1) of LAZY ones at 1 in BEAT 1", x.duel(1), 1);
        x.dance(REST);
        Asked.due("duel(1) of LAZY ones at 1 in BEAT 2", x.duel(1), 2);
        Asked.due("duel(2): the other one's BACK is nothing in BEAT 3", x.duel(2), 2);
    }

    private static void oddsNumbers() {
        Asked.under("FORGOTTEN: above (part = 0), below (1). BAD.");
        RopeDance x = Dances.laid(Dances.TWELVE);
        for (int n = -2; n <= 9; n++) {
            for (int forgotten = -2; forgotten <= 12; forgotten++) {
                boolean is = n >= 0 && n <= 7 && forgotten >= 0 && forgotten <= 10;
                Asked.so("odds(" + n + ", " + forgotten + ", 1)", (x.odds(n, forgotten, 1) == BAD) == !is);
            }
        }
        for (int part : new int[] {-1, 2, Dances.LEAST, Dances.GREATEST}) {
            Asked.due("odds(7, 10, " + part + ")", x.odds(7, 10, part), BAD);
        }
        for (int far : new int[] {Dances.LEAST, Dances.GREATEST}) {
            Asked.due("odds(far, 5, 0)", x.odds(far, 5, 0), BAD);
            Asked.due("odds(5, far, 0)", x.odds(5, far, 0), BAD);
        }
    }

    private static void odds(RopeDance x, int n, int forgotten, int above, int below) {
        Asked.due("odds(" + n + ", " + forgotten + ", 0)", x.odds(n, forgotten, 0), above);
        Asked.due("odds(" + n + ", " + forgotten + ", 1)", x.odds(n, forgotten, 1), below);
    }

    private static void oddsAllOrNone() {
        Asked.under("FORGOTTEN by x (0 to 10): of the first n (0 to 7) FIGURES of THE ROW (as many as there are)"
                + " each is a REST by x of ten, for itself");
        RopeDance x = Dances.laid("r0;".repeat(12));
        for (int n = 0; n <= 7; n++) {
            odds(x, n, 10, 1, 1);
            odds(x, n, 0, n == 0 ? 1 : 0, 1);
        }
        odds(x, 1, 1, 1, 10);
        odds(x, 1, 9, 9, 10);
        odds(x, 7, 1, 1, 10000000);
        odds(x, 7, 9, 4782969, 10000000);
        RopeDance y = Dances.laid("r1;r0;r1;");
        // All forgotten (x^3), or the TWIST danced and one of the BACKs forgotten.
        odds(y, 3, 3, 27 + 2 * 3 * 49, 1000);
        odds(y, 2, 9, 82 / 2, 50);
    }

    private static void oddsLowestTerms() {
        Asked.under("(Lowest terms; 0 by 1.)");
        RopeDance x = Dances.laid("r0;r0;");
        odds(x, 1, 2, 1, 5);
        odds(x, 1, 5, 1, 2);
        odds(x, 2, 5, 1, 4);
        odds(x, 2, 4, 4, 25);
        odds(x, 2, 0, 0, 1);
        odds(x, 0, 0, 1, 1);
        x.dance(TWIST);
        for (int n = 0; n <= 2; n++) {
            for (int forgotten = 0; forgotten <= 10; forgotten++) {
                odds(x, n, forgotten, 0, 1);
            }
        }
        x.dance(TURN);
        odds(x, 0, 5, 0, 1);
        RopeDance y = Dances.laid(Dances.TWELVE);
        for (int n = 0; n <= 7; n++) {
            for (int forgotten = 0; forgotten <= 10; forgotten++) {
                Asked.due("no common part", Dances.divisor(y.odds(n, forgotten, 0), y.odds(n, forgotten, 1)), 1);
            }
        }
    }

    private static void oddsAsManyAsThereAre() {
        Asked.under("of the first n (0 to 7) FIGURES of THE ROW (as many as there are)");
        RopeDance none = Dances.laid("d0,0;");
        RopeDance two = Dances.laid("r0;r0;");
        RopeDance eight = Dances.laid("r3;r3;r3;r3;r3;r3;r3;r0;");
        for (int n = 0; n <= 7; n++) {
            odds(none, n, 5, 1, 1);
            odds(two, n, 1, 1, n == 0 ? 1 : n == 1 ? 10 : 100);
            // The TWIST is the eighth one: it is none of these.
            odds(eight, n, 5, 1, 1);
        }
        none.dance(TWIST);
        odds(none, 7, 5, 0, 1);
        RopeDance seven = Dances.laid("r3;r3;r3;r3;r3;r3;r0;");
        odds(seven, 7, 3, 3, 10);
        odds(seven, 6, 3, 1, 1);
    }

    private static void oddsOfLazyOnes() {
        Asked.under("each is a REST by x of ten, for itself: the chance that WOUND is 0 behind these");
        // What is forgotten takes its BEAT all the same.
        RopeDance x = Dances.laid("d1,2;r3;r0;");
        odds(x, 2, 4, 1, 1);
        x.dance(REST);
        odds(x, 2, 4, 2, 5);
        // A TURN that is forgotten: who leads is another one.
        RopeDance y = Dances.laid("d1,1;r0;r1;");
        odds(y, 2, 5, 1, 4);
        RopeDance z = Dances.laid("r2;r2;");
        odds(z, 1, 3, 3, 10);
        odds(z, 2, 3, 29, 50);
    }

    private static void eveningNumbers() {
        Asked.under("AN EVENING: how often 0 (what = 0), TOO TIGHT (1), who (2). BAD.");
        RopeDance x = new RopeDance();
        int[] outside = {Dances.LEAST, -1, 10000, Dances.GREATEST};
        for (int z : outside) {
            Asked.due("evening(" + z + ", 1, 0)", x.evening(z, 1, 0), BAD);
        }
        for (int n : new int[] {Dances.LEAST, -1, 0, 61, Dances.GREATEST}) {
            Asked.due("evening(0, " + n + ", 0)", x.evening(0, n, 0), BAD);
        }
        for (int what : new int[] {Dances.LEAST, -1, 3, Dances.GREATEST}) {
            Asked.due("evening(0, 1, " + what + ")", x.evening(0, 1, what), BAD);
        }
        for (int z : new int[] {0, 9999}) {
            for (int n : new int[] {1, 60}) {
                for (int what = 0; what < 3; what++) {
                    Asked.so("evening(" + z + ", " + n + ", " + what + ")", x.evening(z, n, what) >= 0);
                }
            }
        }
    }

    private static int draw(int z, int k) {
        BigInteger x = BigInteger.valueOf(7919L * z + 6151L * k + 1);
        return x.multiply(x).mod(BigInteger.valueOf(65521)).intValue();
    }

    /** Danced by hand on another object, FIGURE by FIGURE, with dance() and put(). */
    private static void byHand(String text, int z, int n, int... ahead) {
        RopeDance x = Dances.laid(text);
        RopeDance y = Dances.laid(text);
        Dances.dance(x, ahead);
        Dances.dance(y, ahead);
        int zeros = 0;
        int tights = 0;
        for (int k = 0; k < n; k++) {
            if (y.dance(draw(z, k) % 4) == Dances.NO) {
                tights++;
                y.dance(REST);
            }
            if (draw(z, k) / 4 % 8 == 0) {
                y.put(y.place(0, 0), y.place(2, 0));
            }
            zeros += y.wound(0) == 0 ? 1 : 0;
        }
        Asked.due("evening(" + z + ", " + n + ", 0) of " + text, x.evening(z, n, 0), zeros);
        Asked.due("evening(" + z + ", " + n + ", 1) of " + text, x.evening(z, n, 1), tights);
        Asked.due("evening(" + z + ", " + n + ", 2) of " + text, x.evening(z, n, 2), y.place(0, 0));
    }

    private static void eveningDraws() {
        Asked.under("the k-th time (0 first), DRAW being (x times x) modulo 65521, x 7919 z, 6151 k and 1 together:"
                + " FIGURE DRAW modulo 4 is danced");
        RopeDance x = Dances.laid("d0,0;");
        // z 0, k 0: DRAW 1, a BACK; so WOUND 1 is 0 then.
        x.dance(TWIST);
        Asked.due("evening(0, 1, 0) of 1", x.evening(0, 1, 0), 1);
        x.lay();
        Asked.due("evening(0, 1, 0) of 0", x.evening(0, 1, 0), 0);
        // The greatest x, whose square is far beyond an int.
        Asked.due("draw(9999, 59)", draw(9999, 59), (int) (79544991L * 79544991L % 65521));
        for (int z : new int[] {0, 1, 2, 1234, 4999, 9998, 9999}) {
            for (int n : new int[] {1, 2, 3, 30, 59, 60}) {
                byHand("d0,0;", z, n);
                byHand("d0,5;d1,2;d2,4;d3,3;p0,2;p2,0;", z, n, TWIST, TURN, REST);
            }
        }
    }

    private static void eveningPuts() {
        Asked.under("if (DRAW by 4, cut) modulo 8 is 0, those at PLACES 0 and 2 are PUT in one another's place then");
        RopeDance x = Dances.laid("d0,0;");
        // z 0, k 0: a BACK, 0 2 1 3, and (1 by 4, cut) is 0: PUT, 1 2 0 3.
        Asked.due("evening(0, 1, 2)", x.evening(0, 1, 2), 1);
        Asked.due("draw(1, 0)", draw(1, 0), 22803);
        // A REST, 5700 modulo 8 being 4: no PUT.
        Asked.due("evening(1, 1, 2)", x.evening(1, 1, 2), 0);
        int puts = 0;
        for (int z = 0; z < 200; z++) {
            int draw = draw(z, 0);
            int[] order = draw % 4 < 2 ? new int[] {0, 2, 1, 3} : draw % 4 == 2 ? new int[] {3, 0, 1, 2}
                    : new int[] {0, 1, 2, 3};
            boolean put = draw / 4 % 8 == 0;
            puts += put ? 1 : 0;
            Asked.due("evening(" + z + ", 1, 2)", x.evening(z, 1, 2), put ? order[2] : order[0]);
        }
        Asked.so("some of them with a PUT", puts > 10);
    }

    private static void eveningGoesOn() {
        Asked.under("AN EVENING by z (0 to 9999) of n (1 to 60) FIGURES from now on");
        RopeDance x = Dances.laid("d0,0;");
        int before = 0;
        for (int n = 1; n <= 60; n++) {
            int zeros = x.evening(77, n, 0);
            Asked.so("as often or once more", zeros == before || zeros == before + 1);
            before = zeros;
        }
        // BEATS from now on, not from 0: a LAZY one does in BEAT 1 nothing.
        for (int z = 0; z < 40; z++) {
            byHand("d0,2;d1,2;d2,2;d3,2;", z, 3);
            byHand("d0,2;d1,2;d2,2;d3,2;", z, 3, REST);
            byHand("d0,5;d1,5;d2,5;d3,5;", z, 3, BACK);
        }
    }

    private static void nothingIsChanged() {
        Asked.under("nothing else being done");
        RopeDance x = Dances.laid("d0,5;d1,2;r0;r1;r2;");
        RopeDance y = Dances.laid("d0,5;d1,2;r0;r1;r2;");
        for (RopeDance z : new RopeDance[] {x, y}) {
            Dances.dance(z, TWIST, TURN, BACK, TWIST);
            z.keep();
            z.put(1, 2);
            z.see(2, 1, 2);
        }
        for (int n = 0; n <= 7; n++) {
            x.duel(n);
            x.odds(n, 5, 0);
            x.evening(n, 60, 0);
            x.danced(n);
            x.kinds(n);
            x.look(n, 0);
        }
        Asked.so("nothing has changed", Dances.drained(x).equals(Dances.drained(y)));
    }
}
