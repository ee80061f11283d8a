import java.util.ArrayList;
import java.util.List;

/** TOO TIGHT, just at 9999 and just beyond it, in each call that dances a figure or tries one out. */
public final class TightBounds {
    private static final int NO = Dances.NO, NONE = Dances.NONE, NOTHING = Dances.NOTHING;
    private static final int TWIST = Dances.TWIST, BACK = Dances.BACK, TURN = Dances.TURN, REST = Dances.REST;
    private static final int AT = 9999, BEYOND = 10000;

    public static void main(String[] args) {
        danceUpAndDown();
        danceWithGreatL();
        danceByKind();
        whatStaysWhenItIsNot();
        rowsOfWhichOneIs();
        meet();
        meetBehindAnother();
        plain();
        theRow();
        behind();
        seen();
        look();
        danced();
        duel();
        odds();
        evening();
        eveningTakesTheBeat();
        allCallsByTheSecondProgram();
        Asked.end();
    }

    /** Wound so that a TWIST (times 1) would make U the sum; with a sign below 0, a BACK its opposite. */
    private static RopeDance woundTo(String text, int sum, int times, int sign) {
        RopeDance x = Dances.laid(text);
        int[] f = Dances.fractionWith(sum, times);
        Dances.windTo(x, sign * f[0], f[1]);
        return x;
    }

    private static RopeDance plainTo(int sum) {
        return woundTo("d0,0;", sum, 1, 1);
    }

    private static void danceUpAndDown() {
        Asked.under("TOO TIGHT is a FIGURE behind which U would be above 9999 or below -9999, or L above 9999:"
                + " it can not be danced.");
        RopeDance x = plainTo(AT);
        int l = x.wound(1);
        Asked.due("TWIST to 9999", x.dance(TWIST), 11);
        Dances.wound(x, 9999, l);
        Asked.due("TWIST beyond it", x.dance(TWIST), NO);
        Dances.wound(x, 9999, l);
        Asked.due("BACK from it", x.dance(BACK), 9);
        x = woundTo("d0,0;", AT, 1, -1);
        Asked.due("BACK to -9999", x.dance(BACK), 9);
        Dances.wound(x, -9999, x.wound(1));
        Asked.due("BACK beyond it", x.dance(BACK), NO);
        Asked.due("TWIST from it", x.dance(TWIST), 11);
        x = plainTo(BEYOND);
        Asked.due("TWIST to 10000", x.dance(TWIST), NO);
        Asked.due("REST", x.dance(REST), 10);
        Asked.due("TWIST to 10000", x.dance(TWIST), NO);
        Asked.due("BACK", x.dance(BACK), 9);
        Asked.due("TWIST", x.dance(TWIST), 11);
        Asked.due("TURN", x.dance(TURN), 10);
        x = woundTo("d0,0;", BEYOND, 1, -1);
        Asked.due("BACK to -10000", x.dance(BACK), NO);
        Asked.due("TWIST", x.dance(TWIST), 11);
    }

    private static void danceWithGreatL() {
        Asked.under("or L above 9999");
        for (int sign = -1; sign <= 1; sign += 2) {
            RopeDance x = woundTo("d0,0;", AT, 1, sign);
            int l = x.wound(1);
            x.dance(sign > 0 ? TWIST : BACK);
            Asked.due("TURN to L 9999", x.dance(TURN), 10);
            Dances.wound(x, -sign * l, 9999);
            Asked.due("TURN back", x.dance(TURN), 10);
            Dances.wound(x, sign * 9999, l);
            x.dance(TURN);
            Asked.due("away from 0", x.dance(sign > 0 ? BACK : TWIST), NO);
            Asked.due("to the other side of 0", x.dance(sign > 0 ? TWIST : BACK), sign > 0 ? 11 : 9);
            Dances.wound(x, sign * (9999 - l), 9999);
            Asked.due("further on", x.dance(sign > 0 ? TWIST : BACK), NO);
        }
    }

    private static void danceByKind() {
        Asked.under("But by the KIND of who leads");
        for (int sign = -1; sign <= 1; sign += 2) {
            int wind = sign > 0 ? TWIST : BACK;
            int unwind = sign > 0 ? BACK : TWIST;
            for (int sum = AT; sum <= BEYOND; sum++) {
                String call = " to " + sign * sum;
                int once = sum == AT ? 10 + sign : NO;
                Asked.due("PLAIN" + call, led(0, sum, 1, sign).dance(wind), once);
                Asked.due("CROSS" + call, led(1, sum, 1, sign).dance(unwind), once);
                Asked.due("CROSS, away", led(1, sum, 1, sign).dance(wind), 10 - sign);
                Asked.due("EAGER" + call, led(3, sum, 2, sign).dance(wind), sum == AT ? 10 + 2 * sign : NO);
                Asked.due("EAGER, once" + call, led(3, sum, 1, sign).dance(wind), NO);
                lazyAndShy(sum, sign, wind, once);
                RopeDance x = led(5, sum, 1, sign);
                int last = x.count(2) == 1 ? 1 : -1;
                Asked.due("STUBBORN, told TWIST", x.dance(TWIST), last == sign ? once : 10 + last);
                x = led(5, sum, 1, sign);
                Asked.due("STUBBORN, told BACK", x.dance(BACK), last == sign ? once : 10 + last);
            }
        }
        Asked.so("STUBBORN ones of both sorts", stubbornWindsBy(1) && stubbornWindsBy(-1));
    }

    private static boolean stubbornWindsBy(int sign) {
        return (led(5, AT, 1, sign).count(2) == 1 ? 1 : -1) == sign;
    }

    private static void lazyAndShy(int sum, int sign, int wind, int once) {
        RopeDance x = led(2, sum, 1, sign);
        if (x.count(1) % 2 == 0) {
            x.dance(REST);
        }
        Asked.due("LAZY in a BEAT of an odd number: nothing is not TOO TIGHT", x.dance(wind), 10);
        Asked.due("LAZY in a BEAT of an even number", x.dance(wind), once);
        x = led(4, sum, 1, sign);
        boolean alike = x.place(1, 1) == x.place(2, 1);
        Asked.due("SHY, by the ROPES", x.dance(wind), alike ? 10 : once);
    }

    /** Dancer 0 of a KIND leads; the others are PLAIN and have wound it. */
    private static RopeDance led(int kind, int sum, int times, int sign) {
        RopeDance x = woundTo("d0," + kind + ";", sum, times, sign);
        Dances.letLead(x, 0);
        return x;
    }

    private static void whatStaysWhenItIsNot() {
        Asked.under("it can not be danced");
        RopeDance x = plainTo(BEYOND);
        RopeDance y = plainTo(BEYOND);
        for (int k = 0; k < 3; k++) {
            Asked.due("dance(TWIST)", x.dance(TWIST), NO);
        }
        Asked.so("nothing has changed", Dances.drained(x).equals(Dances.drained(y)));
    }

    private static void rowsOfWhichOneIs() {
        Asked.under("a row of FIGURES of which one is TOO TIGHT is none");
        for (int sum = AT; sum <= BEYOND; sum++) {
            for (int sign = -1; sign <= 1; sign += 2) {
                RopeDance x = woundTo("d0,0;", sum, 1, sign);
                for (int k = -1; k <= 6; k++) {
                    Asked.due("free(" + k + ")", x.free(k), NONE);
                    Asked.due("reach(1, 0, " + k + ")", x.reach(1, 0, k), NONE);
                    Asked.due("reach(99, 98, " + k + ")", x.reach(99, 98, k), NONE);
                }
                for (int n = 0; n <= 7; n++) {
                    Asked.due("ways(" + n + ")", x.ways(n), 0);
                }
            }
        }
    }

    private static void meets(RopeDance x, int want) {
        int one = x.place(0, 0);
        int across = x.place(2, 0);
        Asked.due("meet, how many", x.meet(one, across, -1), want == NONE ? NONE : 1);
        Asked.due("meet, the first", x.meet(one, across, 0), want);
        Asked.due("meet, not so many", x.meet(across, one, 1), NONE);
    }

    private static void meet() {
        Asked.under("MEET, likewise, that two DANCERS stand side by side");
        meets(plainTo(AT), TWIST);
        meets(plainTo(BEYOND), BACK);
        meets(woundTo("d0,0;", AT, 1, -1), TWIST);
        meets(woundTo("d0,0;", BEYOND, 1, -1), TWIST);
        meets(led(1, AT, 1, -1), TWIST);
        meets(led(1, BEYOND, 1, -1), BACK);
        meets(led(1, BEYOND, 1, 1), TWIST);
        // Both beyond: with L 9999 neither way is free but the one to the other side of 0.
        RopeDance x = plainTo(AT);
        Dances.dance(x, TWIST, TURN);
        meets(x, TWIST);
        x.dance(TWIST);
        meets(x, BACK);
    }

    /**
     * An EAGER one leads in a BEAT of an even number, a LAZY one behind a TURN: there must be a FIGURE ahead of
     * the TURN, so that the LAZY one leads in a BEAT of an even number. A TWIST that is TOO TIGHT is no such FIGURE.
     */
    private static void meetBehindAnother() {
        Asked.under("a row of FIGURES of which one is TOO TIGHT is none");
        for (int sum = AT; sum <= BEYOND; sum++) {
            RopeDance x = woundTo("d0,3;d2,2;", sum, 2, 1);
            Dances.letLead(x, 0);
            if (x.place(0, 0) != 2) {
                x.put(x.place(0, 0), 2);
            }
            if (x.count(1) % 2 == 1) {
                x.dance(REST);
            }
            int across = x.place(2, 0);
            Asked.due("meet, how many", x.meet(2, across, -1), 3);
            Asked.due("meet, the first", x.meet(2, across, 0), sum == AT ? TWIST : BACK);
            Asked.due("meet, the second", x.meet(2, across, 1), TURN);
            Asked.due("meet, the third", x.meet(2, across, 2), TWIST);
        }
    }

    /** An EAGER one leads at first, by whom -U by L becomes 2 L less U: 9999, or 10000. */
    private static void plain() {
        Asked.under("PLAIN WAY: as long as WOUND is not 0: below 0 a TWIST, else a TURN");
        RopeDance x = Dances.laid("d0,3;");
        Dances.windTo(x, -863, 5431);
        Dances.letLead(x, 0);
        Asked.due("plain() by 9999", x.plain(), 56);
        RopeDance y = Dances.laid("d0,3;");
        Dances.windTo(y, -962, 5481);
        Dances.letLead(y, 0);
        Asked.due("plain() by 10000", y.plain(), NONE);
        // A CROSS one goes down for ever or till it is TOO TIGHT: there is none either way.
        Asked.due("plain() of a CROSS one", led(1, AT, 1, -1).plain(), NONE);
        Asked.due("plain() of a CROSS one", led(1, BEYOND, 1, -1).plain(), NONE);
    }

    private static void theRow() {
        Asked.under("how many FIGURES of it can be danced till one is TOO TIGHT; WOUND then, who stands at a PLACE then");
        for (int at = 0; at < 12; at++) {
            String row = "r3;".repeat(at) + "r0;" + "r2;".repeat(11 - at);
            RopeDance x = woundTo(row, BEYOND, 1, 1);
            Asked.due("comes(0), TOO TIGHT at " + at, x.comes(0), at);
            Asked.due("comes(1)", x.comes(1), x.place(0, 0));
            RopeDance y = woundTo(row, AT, 1, 1);
            Asked.due("comes(0), just at 9999", y.comes(0), 12);
        }
        RopeDance x = woundTo("r2;r2;r0;r2;", BEYOND, 1, 1);
        Asked.due("comes(0) behind two TURNs", x.comes(0), 2);
        Asked.due("comes(1) behind two TURNs", x.comes(1), x.place(2, 0));
    }

    private static void behind() {
        Asked.under("Any number: NONE: one is TOO TIGHT; BAD.");
        RopeDance x = woundTo("r3;r0;r1;", BEYOND, 1, 1);
        RopeDance y = woundTo("r3;r0;r1;", AT, 1, 1);
        for (int n = 0; n <= 12; n++) {
            Asked.due("behind(" + n + ", 0)", x.behind(n, 0), n < 2 ? x.wound(0) : NOTHING);
            Asked.due("behind(" + n + ", 1)", x.behind(n, 1), n < 2 ? x.wound(1) : NOTHING);
            Asked.due("behind(" + n + ", 0), at 9999", y.behind(n, 0), n == 2 ? 9999 : y.wound(0));
        }
        RopeDance z = woundTo("r1;", BEYOND, 1, -1);
        Asked.due("behind(1, 0) down to -10000", z.behind(1, 0), NOTHING);
        z = woundTo("r1;", AT, 1, -1);
        Asked.due("behind(1, 0) down to -9999", z.behind(1, 0), -9999);
    }

    /** All but dancer 0 are EAGER: in eleven FIGURES they unwind it to what can be SEEN. */
    private static RopeDance unwoundByEagerOnes(int u, int l) {
        RopeDance x = Dances.laid("d1,3;d2,3;d3,3;r0;r1;r1;r1;r1;r2;r0;r2;r1;r1;r2;r0;");
        Dances.windTo(x, u, l);
        Dances.letLead(x, 0);
        if (x.count(1) % 2 == 0) {
            x.dance(REST);
        }
        return x;
    }

    private static void seen() {
        Asked.under("none TOO TIGHT, else it is not so");
        RopeDance x = unwoundByEagerOnes(8817, 1183);
        Asked.due("behind(12, 0): the first is TOO TIGHT", x.behind(12, 0), NOTHING);
        x.see(12, -19, 92);
        // A LAZY one does nothing in a BEAT of an odd number; a REST in its stead would come to the same.
        Asked.due("kinds(0), the first to 10000", x.kinds(0), 4);
        RopeDance y = unwoundByEagerOnes(8816, 1183);
        y.see(12, -30, 83);
        Asked.due("kinds(0), the first to 9999", y.kinds(0), 1 + 4 + 16);
        Asked.due("behind(12, 0)", y.behind(12, 0), -30);
        Asked.due("behind(12, 1)", y.behind(12, 1), 83);
    }

    private static void look() {
        Asked.under("(TOO TIGHT is alike)");
        // In a BEAT of an odd number, beside the other ROPE, behind a TWIST: all but CROSS and LAZY wind it.
        for (int sum = AT; sum <= BEYOND; sum++) {
            RopeDance x = Dances.laid("r3;r0;r0;");
            Dances.windTo(x, sum - 1183, 1183);
            if (x.count(1) % 2 == 1) {
                x.dance(REST);
            }
            int leader = x.place(1, 0);
            Asked.due("the ROPES differ", x.place(1, 1) + x.place(2, 1), 1);
            Asked.due("a TWIST was done last", x.count(2), 1);
            // PLAIN, SHY and STUBBORN at 9999 with the EAGER one TOO TIGHT alone; beyond it these four alike.
            Asked.due("look, the n", x.look(leader, 0), 2);
            Asked.due("look, the greatest part", x.look(leader, 1), sum == AT ? 3 : 4);
        }
        // At 9999 behind the first of two, then all four are TOO TIGHT: the first n tells more.
        RopeDance x = Dances.laid("r0;r0;");
        Dances.windTo(x, AT - 1183, 1183);
        if (x.count(1) % 2 == 0) {
            x.dance(REST);
        }
        Asked.due("look, the n", x.look(x.place(1, 0), 0), 1);
        Asked.due("look, the greatest part", x.look(x.place(1, 0), 1), 3);
    }

    private static void danced() {
        Asked.under("how many make WOUND what it is now");
        for (int sum = AT; sum <= BEYOND; sum++) {
            RopeDance x = plainTo(sum);
            for (int n = 0; n <= 7; n++) {
                Asked.due("danced(" + n + ")", x.danced(n), 0);
            }
        }
    }

    private static void duel() {
        Asked.under("(what is TOO TIGHT can not be chosen)");
        RopeDance x = plainTo(AT);
        int greater = Math.max(x.wound(0), x.wound(1));
        Asked.due("duel(0)", x.duel(0), greater);
        Asked.due("duel(1) to 9999", x.duel(1), 9999);
        x = plainTo(BEYOND);
        greater = Math.max(x.wound(0), x.wound(1));
        Asked.due("duel(1), no TWIST", x.duel(1), greater);
        // The other one has a TWIST to answer no more: REST, BACK.
        Asked.due("duel(2), no TWIST", x.duel(2) <= greater ? 1 : 0, 1);
        x = woundTo("d0,0;", BEYOND, 1, -1);
        Asked.due("duel(1) of below 0: REST", x.duel(1), Math.max(-x.wound(0), x.wound(1)));
        Asked.due("EAGER to 9999", led(3, AT, 2, 1).duel(1), 9999);
        x = led(3, BEYOND, 2, 1);
        Asked.due("EAGER to 10000", x.duel(1), Math.max(x.wound(0), x.wound(1)));
        x = led(1, AT, 1, -1);
        Asked.due("CROSS to -9999", x.duel(1), 9999);
        x = led(1, BEYOND, 1, -1);
        Asked.due("CROSS to -10000", x.duel(1), Math.max(-x.wound(0), x.wound(1)));
    }

    private static void odds() {
        Asked.under("(one that is TOO TIGHT is a REST, too)");
        for (int sum = AT; sum <= BEYOND; sum++) {
            RopeDance x = woundTo("r0;".repeat(12), sum, 1, 1);
            for (int n = 0; n <= 7; n++) {
                for (int forgotten = 0; forgotten <= 10; forgotten += 5) {
                    Asked.due("odds(" + n + ", " + forgotten + ", 0)", x.odds(n, forgotten, 0), 0);
                    Asked.due("odds(" + n + ", " + forgotten + ", 1)", x.odds(n, forgotten, 1), 1);
                }
            }
        }
    }

    private static void evening() {
        Asked.under("how often one was TOO TIGHT");
        // z 0, k 0: a BACK, and those at PLACES 0 and 2 are PUT.
        RopeDance x = woundTo("d0,0;", AT, 1, -1);
        Asked.due("evening(0, 1, 1) to -9999", x.evening(0, 1, 1), 0);
        Asked.due("evening(0, 1, 2) to -9999: who led", x.evening(0, 1, 2), x.place(1, 0));
        x = woundTo("d0,0;", BEYOND, 1, -1);
        Asked.due("evening(0, 1, 1) to -10000", x.evening(0, 1, 1), 1);
        Asked.due("evening(0, 1, 2) to -10000: who stood across", x.evening(0, 1, 2), x.place(2, 0));
        Asked.due("evening(0, 1, 0)", x.evening(0, 1, 0), 0);
        x = plainTo(BEYOND);
        Asked.due("evening(0, 1, 1), away from it", x.evening(0, 1, 1), 0);
    }

    /** The same by hand: what is TOO TIGHT is a REST and takes a BEAT, so that LAZY ones go on with the next. */
    private static void eveningTakesTheBeat() {
        Asked.under("FIGURE DRAW modulo 4 is danced (a REST, if it is TOO TIGHT)");
        int several = 0;
        for (int z = 0; z < 60; z++) {
            String text = "d1,2;d2,2;d3,2;";
            RopeDance x = woundTo(text, BEYOND, 1, 1);
            RopeDance y = woundTo(text, BEYOND, 1, 1);
            int tights = 0;
            for (int k = 0; k < 40; k++) {
                long d = 7919L * z + 6151L * k + 1;
                int draw = (int) (d * d % 65521);
                if (y.dance(draw % 4) == NO) {
                    tights++;
                    y.dance(REST);
                }
                if (draw / 4 % 8 == 0) {
                    y.put(y.place(0, 0), y.place(2, 0));
                }
            }
            Asked.due("evening(" + z + ", 40, 1)", x.evening(z, 40, 1), tights);
            Asked.due("evening(" + z + ", 40, 2)", x.evening(z, 40, 2), y.place(0, 0));
            several += tights > 0 ? 1 : 0;
        }
        Asked.so("some of them with what is TOO TIGHT", several > 10);
    }

    /** Every call in many such stands, held against the second program. */
    private static void allCallsByTheSecondProgram() {
        Asked.under("it can not be danced");
        for (int stand = 0; stand < 96; stand++) {
            String text = "d0," + stand % 6 + ";d2," + stand / 6 % 4 + ";r" + stand % 2 + ";r3;r0;r2;r1;r0;r0;r2;r1;";
            int sign = stand % 4 < 2 ? 1 : -1;
            int[] f = Dances.fractionWith(9999 + stand / 48, 1 + stand / 24 % 2);
            RopeDance x = Dances.laid(text);
            Oracle o = Oracle.laid(text);
            for (int figure : Dances.wayTo(sign * f[0], f[1])) {
                if (figure != TURN) {
                    letLead(x, o, 3);
                }
                x.dance(figure);
                o.dance(figure);
            }
            letLead(x, o, stand % 5 % 4);
            allCalls("stand " + stand, x, o);
        }
    }

    private static void letLead(RopeDance x, Oracle o, int i) {
        int leader = o.place(1, 0);
        if (leader != i) {
            x.put(leader, i);
            o.put(leader, i);
        }
    }

    private static void allCalls(String stand, RopeDance x, Oracle o) {
        List<int[]> answers = new ArrayList<>();
        for (int i = 0; i < 4; i++) {
            answers.add(new int[] {x.meet(i, (i + 2) % 4, -1), o.meet(i, (i + 2) % 4, -1)});
            answers.add(new int[] {x.meet(i, (i + 2) % 4, 0), o.meet(i, (i + 2) % 4, 0)});
            answers.add(new int[] {x.look(i, 0), o.look(i, 0)});
            answers.add(new int[] {x.look(i, 1), o.look(i, 1)});
            answers.add(new int[] {x.evening(i * 777, 60, 1), o.evening(i * 777, 60, 1)});
            answers.add(new int[] {x.evening(i * 777, 60, 2), o.evening(i * 777, 60, 2)});
        }
        for (int n = 0; n <= 9; n++) {
            answers.add(new int[] {x.behind(n, 0), o.behind(n, 0)});
            answers.add(new int[] {x.behind(n, 1), o.behind(n, 1)});
            answers.add(new int[] {x.duel(n), o.duel(n)});
        }
        answers.add(new int[] {x.plain(), o.plain()});
        answers.add(new int[] {x.comes(0), o.comes(0)});
        answers.add(new int[] {x.comes(1), o.comes(1)});
        for (int figure = 0; figure < 4; figure++) {
            answers.add(new int[] {x.dance(figure), o.dance(figure)});
            answers.add(new int[] {x.wound(0), o.wound(0)});
            answers.add(new int[] {x.wound(1), o.wound(1)});
        }
        for (int k = 0; k < answers.size(); k++) {
            Asked.due("answer " + k + " in " + stand, answers.get(k)[0], answers.get(k)[1]);
        }
    }
}
