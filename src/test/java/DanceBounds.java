/** Figures, kinds, PUT and UNDONE at their bounds, a test for each sentence. */
public final class DanceBounds {
    private static final int BAD = Dances.BAD, NO = Dances.NO, NONE = Dances.NONE, WRONG = Dances.WRONG;
    private static final int TWIST = Dances.TWIST, BACK = Dances.BACK, TURN = Dances.TURN, REST = Dances.REST;
    private static final String ALL_EAGER = "d0,3;d1,3;d2,3;d3,3;";

    public static void main(String[] args) {
        ofADancer();
        ofAPlace();
        ofWound();
        ofTheRow();
        turnOfWound();
        turnAround();
        rest();
        twistAndBack();
        endless();
        lowestTerms();
        beats();
        cross();
        lazy();
        eager();
        shy();
        stubborn();
        stubbornAtFirst();
        answersOfDance();
        put();
        putIsADeed();
        undoneEight();
        undoneNone();
        Asked.end();
    }

    private static void ofADancer() {
        Asked.under("Of a DANCER: KIND (what = 0), the PLACE (1), the ROPE (2). BAD.");
        RopeDance x = Dances.laid("d0,5;d3,1;p0,3;p3,0;");
        int[][] want = {{5, 3, 1}, {0, 1, 0}, {0, 2, 1}, {1, 0, 0}};
        for (int i = -2; i < 6; i++) {
            for (int what = -2; what < 5; what++) {
                boolean is = i >= 0 && i < 4 && what >= 0 && what < 3;
                Asked.due("dancer(" + i + ", " + what + ")", x.dancer(i, what), is ? want[i][what] : BAD);
            }
        }
    }

    private static void ofAPlace() {
        Asked.under("Of a PLACE: who stands there (what = 0), the ROPE that one holds (1). BAD.");
        RopeDance x = Dances.laid("p0,3;p3,0;");
        x.dance(TURN);
        int[][] want = {{0, 1}, {3, 0}, {1, 0}, {2, 1}};
        for (int p = -2; p < 6; p++) {
            for (int what = -2; what < 4; what++) {
                boolean is = p >= 0 && p < 4 && what >= 0 && what < 2;
                Asked.due("place(" + p + ", " + what + ")", x.place(p, what), is ? want[p][what] : BAD);
            }
        }
    }

    private static void ofWound() {
        Asked.under("WOUND: U (what = 0), L (1). Any number: BAD.");
        RopeDance x = Dances.laid("d0,0;");
        Dances.dance(x, BACK);
        Asked.due("wound(0), as a number like BAD", x.wound(0), -1);
        x.dance(BACK);
        Asked.due("wound(0), as a number like NO", x.wound(0), -2);
        Asked.due("wound(-1)", x.wound(-1), WRONG);
        Asked.due("wound(2)", x.wound(2), WRONG);
        Asked.due("wound(least)", x.wound(Dances.LEAST), WRONG);
        Asked.due("wound(greatest)", x.wound(Dances.GREATEST), WRONG);
        Asked.due("WRONG", RopeDance.WRONG, -100000);
    }

    private static void ofTheRow() {
        Asked.under("The k-th FIGURE (0 on) of THE ROW; NONE: not so many. BAD: k below 0, above 11.");
        RopeDance none = Dances.laid("d0,0;");
        RopeDance eleven = Dances.laid("r2;".repeat(11));
        RopeDance twelve = Dances.laid("r2;".repeat(11) + "r3;");
        for (int k = 0; k < 12; k++) {
            Asked.due("row(" + k + ") of none", none.row(k), NONE);
            Asked.due("row(" + k + ") of 11", eleven.row(k), k < 11 ? 2 : NONE);
            Asked.due("row(" + k + ") of 12", twelve.row(k), k < 11 ? 2 : 3);
        }
        for (int k : new int[] {-1, 12, -12, 13, 16, 32, Dances.LEAST, Dances.GREATEST}) {
            Asked.due("row(" + k + ") of none", none.row(k), BAD);
            Asked.due("row(" + k + ") of 12", twelve.row(k), BAD);
        }
    }

    private static void turnOfWound() {
        Asked.under("(U by L becomes -L by U, 0 ENDLESS, ENDLESS 0)");
        RopeDance x = Dances.laid("d0,0;");
        x.dance(TURN);
        Dances.wound(x, 1, 0);
        x.dance(TURN);
        Dances.wound(x, 0, 1);
        x.dance(TWIST);
        x.dance(TURN);
        Dances.wound(x, -1, 1);
        x.dance(TURN);
        Dances.wound(x, 1, 1);
        Dances.dance(x, TWIST, TURN);
        Dances.wound(x, -1, 2);
        x.dance(TURN);
        Dances.wound(x, 2, 1);
        x.lay();
        Dances.dance(x, BACK, BACK, BACK, TURN);
        Dances.wound(x, 1, 3);
        x.dance(BACK);
        Dances.wound(x, -2, 3);
        x.dance(TURN);
        Dances.wound(x, 3, 2);
    }

    private static void turnAround() {
        Asked.under("each goes to the next PLACE (0 to 1, 1 to 2, 2 to 3, 3 to 0)");
        RopeDance x = Dances.laid("d0,0;");
        int[][] orders = {{3, 0, 1, 2}, {2, 3, 0, 1}, {1, 2, 3, 0}, {0, 1, 2, 3}};
        int[][] ropes = {{1, 0, 0, 1}, {1, 1, 0, 0}, {0, 1, 1, 0}, {0, 0, 1, 1}};
        for (int turn = 0; turn < 4; turn++) {
            Asked.due("dance(TURN)", x.dance(TURN), 10);
            Dances.stand(x, orders[turn]);
            Dances.ropes(x, ropes[turn]);
        }
        Dances.wound(x, 0, 1);
        Asked.due("count(2)", x.count(2), 0);
    }

    private static void rest() {
        Asked.under("REST: nothing.");
        RopeDance x = Dances.laid("d0,1;d1,2;d2,3;d3,5;");
        for (int round = 0; round < 6; round++) {
            int u = x.wound(0);
            int l = x.wound(1);
            int last = x.count(2);
            int[] who = {x.place(0, 0), x.place(1, 0), x.place(2, 0), x.place(3, 0)};
            Asked.due("dance(REST)", x.dance(REST), 10);
            Dances.wound(x, u, l);
            Dances.stand(x, who);
            Asked.due("count(2)", x.count(2), last);
            x.dance(round % 3);
        }
    }

    private static void twistAndBack() {
        Asked.under("who stands at PLACE 1 leads: that one and who stands at PLACE 2 change places,"
                + " and WOUND is 1 more by TWIST, 1 less by BACK");
        RopeDance x = Dances.laid("p0,1;p1,2;p2,0;");
        Asked.due("dance(TWIST)", x.dance(TWIST), 11);
        Dances.stand(x, 2, 1, 0, 3);
        Dances.ropes(x, 0, 1, 0, 1);
        Dances.wound(x, 1, 1);
        Asked.due("dance(BACK)", x.dance(BACK), 9);
        Dances.stand(x, 2, 0, 1, 3);
        Dances.ropes(x, 0, 0, 1, 1);
        Dances.wound(x, 0, 1);
        x.dance(BACK);
        Dances.wound(x, -1, 1);
        Dances.stand(x, 2, 1, 0, 3);
        Dances.dance(x, BACK, TURN);
        Dances.wound(x, 1, 2);
        x.dance(TWIST);
        Dances.wound(x, 3, 2);
        Dances.dance(x, BACK, BACK);
        Dances.wound(x, -1, 2);
    }

    private static void endless() {
        Asked.under("(ENDLESS as it is)");
        int[] figures = {TWIST, TWIST, BACK, REST, BACK};
        int[] plainAnswers = {11, 11, 9, 10, 9};
        int[] eagerAnswers = {12, 12, 8, 10, 8};
        RopeDance x = Dances.laid("d0,0;");
        RopeDance y = Dances.laid(ALL_EAGER);
        x.dance(TURN);
        y.dance(TURN);
        int[][] orders = {{3, 1, 0, 2}, {3, 0, 1, 2}, {3, 1, 0, 2}, {3, 1, 0, 2}, {3, 0, 1, 2}};
        int[] last = {1, 1, 2, 2, 2};
        for (int k = 0; k < figures.length; k++) {
            Asked.due("dance, PLAIN", x.dance(figures[k]), plainAnswers[k]);
            Asked.due("dance, EAGER", y.dance(figures[k]), eagerAnswers[k]);
            Dances.wound(x, 1, 0);
            Dances.wound(y, 1, 0);
            Dances.stand(x, orders[k]);
            Dances.stand(y, 3, 0, 1, 2);
            Asked.due("count(2)", x.count(2), last[k]);
            Asked.due("count(2)", y.count(2), last[k]);
        }
        x.dance(TURN);
        Dances.wound(x, 0, 1);
        // Hundreds of TWISTs leave it as it is, too: it is never TOO TIGHT.
        x = Dances.laid(ALL_EAGER);
        x.dance(TURN);
        for (int k = 0; k < 400; k++) {
            Asked.due("dance(TWIST)", x.dance(TWIST), 12);
        }
        Dances.wound(x, 1, 0);
    }

    private static void lowestTerms() {
        Asked.under("WOUND is a fraction, U by L, in lowest terms, L above 0, or ENDLESS (1 by 0).");
        RopeDance x = Dances.laid("d0,3;d1,1;d2,2;d3,5;");
        int draw = 1;
        for (int k = 0; k < 160; k++) {
            draw = draw * 1103515 % 65521 * 7 % 65521;
            x.dance(draw % 3);
            int u = x.wound(0);
            int l = x.wound(1);
            Asked.so(u + " by " + l + " in lowest terms", l == 0 ? u == 1 : l > 0 && Dances.divisor(u, l) == 1);
        }
    }

    private static void beats() {
        Asked.under("each takes one BEAT (numbered from 0 on)");
        RopeDance x = Dances.laid("d0,0;");
        int[] figures = {TWIST, BACK, TURN, REST};
        for (int k = 0; k < 40; k++) {
            Asked.due("count(1)", x.count(1), k);
            x.dance(figures[k % 4]);
        }
        x.put(0, 1);
        Asked.due("PUT takes none", x.count(1), 40);
        x.dance(4);
        Asked.due("what is BAD takes none", x.count(1), 40);
        x.undo();
        Asked.due("PUT, UNDONE", x.count(1), 40);
        x.undo();
        Asked.due("a FIGURE, UNDONE", x.count(1), 39);
        x = Dances.laid("d1,2;");
        Dances.dance(x, REST, TWIST);
        Asked.due("a LAZY one's nothing takes one", x.count(1), 2);
        x = Dances.laid(ALL_EAGER);
        x.dance(TWIST);
        Asked.due("an EAGER one's two take one", x.count(1), 1);
        x = Dances.laid("d0,4;");
        Dances.dance(x, TURN, TWIST);
        Asked.due("a SHY one's nothing takes one", x.count(1), 2);
    }

    private static void cross() {
        Asked.under("a CROSS one does BACK for TWIST, TWIST for BACK");
        RopeDance x = Dances.laid("d1,1;");
        Asked.due("told TWIST", x.dance(TWIST), 9);
        Dances.wound(x, -1, 1);
        Dances.stand(x, 0, 2, 1, 3);
        Asked.due("count(2)", x.count(2), 2);
        Asked.due("the other one leads", x.dance(TWIST), 11);
        Asked.due("told BACK", x.dance(BACK), 11);
        Dances.wound(x, 1, 1);
        Asked.due("count(2)", x.count(2), 1);
        Dances.dance(x, BACK, TURN);
        Asked.due("TURN", x.count(1), 5);
        Dances.wound(x, 1, 0);
        Dances.stand(x, 3, 0, 1, 2);
        x = Dances.laid("d2,1;");
        Asked.due("who stands at PLACE 2 does not lead", x.dance(TWIST), 11);
    }

    private static void lazy() {
        Asked.under("a LAZY one nothing in BEATS of an odd number");
        RopeDance x = Dances.laid("d0,2;d1,2;d2,2;d3,2;");
        for (int beat = 0; beat < 12; beat++) {
            int before = x.wound(0);
            int first = x.place(1, 0);
            Asked.due("BEAT " + beat, x.dance(beat < 6 ? TWIST : BACK), beat % 2 == 1 ? 10 : beat < 6 ? 11 : 9);
            Asked.due("WOUND in BEAT " + beat, x.wound(0), before + (beat % 2 == 1 ? 0 : beat < 6 ? 1 : -1));
            Asked.so("who leads then", (x.place(1, 0) == first) == (beat % 2 == 1));
        }
        x.lay();
        x.dance(REST);
        x.dance(TWIST);
        Asked.due("nothing was done yet by nothing", x.count(2), 0);
        Asked.due("it is a DEED all the same", x.count(3), 2);
        x.lay();
        x.put(0, 2);
        Asked.due("a PUT makes no BEAT odd", x.dance(TWIST), 11);
        x.undo();
        Asked.due("BEAT 0 is next again", x.dance(TWIST), 11);
        Asked.due("TURN in BEAT 1", x.dance(TURN), 10);
        Dances.wound(x, -1, 1);
        x = Dances.laid("d2,2;");
        x.dance(REST);
        Asked.due("a LAZY one who does not lead, in BEAT 1", x.dance(TWIST), 11);
    }

    private static void eager() {
        Asked.under("an EAGER one does it twice at once (both change places twice; WOUND by 2)");
        RopeDance x = Dances.laid("d1,3;");
        Asked.due("TWIST", x.dance(TWIST), 12);
        Dances.wound(x, 2, 1);
        Dances.stand(x, 0, 1, 2, 3);
        Asked.due("BACK", x.dance(BACK), 8);
        Dances.wound(x, 0, 1);
        Asked.due("BACK", x.dance(BACK), 8);
        Dances.wound(x, -2, 1);
        Dances.stand(x, 0, 1, 2, 3);
        Asked.due("count(2)", x.count(2), 2);
        Asked.due("one DEED each", x.count(3), 3);
        x.undo();
        Dances.wound(x, 0, 1);
        // Once and at once: the other one does not lead the second time.
        x = Dances.laid("d1,3;d2,1;");
        Asked.due("beside a CROSS one", x.dance(TWIST), 12);
    }

    private static void shy() {
        Asked.under("a SHY one nothing, if who stands at PLACE 2 holds the same ROPE");
        RopeDance x = Dances.laid("d0,4;d1,4;d2,4;d3,4;");
        Asked.due("beside the other ROPE", x.dance(TWIST), 11);
        Dances.ropes(x, 0, 1, 0, 1);
        Asked.due("beside the other ROPE", x.dance(BACK), 9);
        x.dance(TURN);
        Dances.ropes(x, 1, 0, 0, 1);
        Asked.due("beside its own ROPE", x.dance(TWIST), 10);
        Asked.due("beside its own ROPE", x.dance(BACK), 10);
        Dances.stand(x, 3, 0, 1, 2);
        Asked.due("what was done last stays", x.count(2), 2);
        x.put(0, 2);
        Asked.due("PUT, holding the other one's end: still its own", x.dance(TWIST), 10);
        x.dance(TURN);
        Dances.ropes(x, 1, 1, 0, 0);
        Asked.due("beside the other ROPE", x.dance(TWIST), 11);
        x = Dances.laid("d2,4;");
        x.dance(TURN);
        x.put(2, 1);
        Asked.due("a SHY one who does not lead", x.dance(TWIST), 11);
    }

    private static void stubborn() {
        Asked.under("a STUBBORN one does what was done last, TWIST or BACK, by whoever led"
                + " (as it was done, not as it was told)");
        RopeDance x = Dances.laid("d1,5;d2,1;d3,3;");
        Asked.due("told TWIST at first", x.dance(TWIST), 11);
        Asked.due("a CROSS one told TWIST", x.dance(TWIST), 9);
        Asked.due("told TWIST behind it", x.dance(TWIST), 9);
        Asked.due("a CROSS one told BACK", x.dance(BACK), 11);
        Dances.dance(x, REST, TURN, TURN, TURN, TURN);
        Asked.due("told BACK, REST and TURN between", x.dance(BACK), 11);
        Asked.due("count(2)", x.count(2), 1);
        x = Dances.laid("d1,5;d2,3;");
        x.dance(TWIST);
        Asked.due("an EAGER one told BACK", x.dance(BACK), 8);
        Dances.letLead(x, 1);
        Asked.due("told TWIST: one BACK, not two", x.dance(TWIST), 9);
        x = Dances.laid("d1,5;d2,2;");
        x.dance(BACK);
        Asked.due("a LAZY one's nothing in BEAT 1", x.dance(TWIST), 10);
        Dances.letLead(x, 1);
        Asked.due("told TWIST: the BACK ahead of it", x.dance(TWIST), 9);
        x = Dances.laid("d1,5;");
        Dances.dance(x, TURN, TWIST);
        Dances.letLead(x, 1);
        Asked.due("told BACK behind a TWIST in ENDLESS", x.dance(BACK), 11);
    }

    private static void stubbornAtFirst() {
        Asked.under("else, if nothing was, what is told");
        RopeDance x = Dances.laid("d0,5;d1,5;d2,5;d3,5;");
        Asked.due("TWIST at first", x.dance(TWIST), 11);
        Asked.due("then told BACK", x.dance(BACK), 11);
        x.undo();
        x.undo();
        Asked.due("BACK, both being UNDONE", x.dance(BACK), 9);
        Asked.due("then told TWIST", x.dance(TWIST), 9);
        x.lay();
        Dances.dance(x, TURN, REST);
        Asked.due("behind TURN and REST alone", x.dance(BACK), 9);
        x.lay();
        x.keep();
        x.dance(TWIST);
        x.back();
        Asked.due("as KEPT, nothing being done yet", x.dance(BACK), 9);
        x = Dances.laid("d0,4;d1,5;d2,2;");
        Dances.dance(x, TURN, TWIST);
        Asked.due("behind a SHY one's nothing", x.count(2), 0);
        Dances.letLead(x, 2);
        x.dance(REST);
        x.dance(TWIST);
        Asked.due("behind a LAZY one's nothing", x.count(2), 0);
        Dances.letLead(x, 1);
        Asked.due("told BACK", x.dance(BACK), 9);
    }

    private static void answersOfDance() {
        Asked.under("A FIGURE is danced: 10, and 1 more for each TWIST that was done by it, 1 less for each BACK."
                + " BAD; NO: TOO TIGHT.");
        for (int kind = 0; kind < 6; kind++) {
            int[] twist = {11, 9, 11, 12, 11, 11};
            int[] back = {9, 11, 9, 8, 9, 9};
            Asked.due("TWIST by KIND " + kind, Dances.laid("d1," + kind + ";").dance(TWIST), twist[kind]);
            Asked.due("BACK by KIND " + kind, Dances.laid("d1," + kind + ";").dance(BACK), back[kind]);
            Asked.due("TURN by KIND " + kind, Dances.laid("d1," + kind + ";").dance(TURN), 10);
            Asked.due("REST by KIND " + kind, Dances.laid("d1," + kind + ";").dance(REST), 10);
        }
        RopeDance x = new RopeDance();
        for (int figure : new int[] {-1, 4, 5, Dances.LEAST, Dances.GREATEST}) {
            Asked.due("dance(" + figure + ")", x.dance(figure), BAD);
        }
        Dances.counts(x, 5, 0, 0, 0, 0, 0, 0);
    }

    private static void put() {
        Asked.under("PUT in one another's place: the PLACE of DANCER i then. BAD: alike, too.");
        for (int i = -1; i < 5; i++) {
            for (int j = -1; j < 5; j++) {
                RopeDance x = Dances.laid("p0,2;p2,1;p1,0;");
                boolean is = i >= 0 && j >= 0 && i < 4 && j < 4 && i != j;
                Asked.due("put(" + i + ", " + j + ")", x.put(i, j), is ? new int[] {2, 0, 1, 3}[j] : BAD);
                Asked.due("count(3)", x.count(3), is ? 1 : 0);
            }
        }
        Asked.under("two DANCERS are PUT in one another's place, each holding then the end that the other one held");
        for (int i = 0; i < 4; i++) {
            for (int j = 0; j < 4; j++) {
                RopeDance x = Dances.laid("d0,1;");
                x.dance(TWIST);
                x.put(i, j);
                Dances.ropes(x, 0, 1, 0, 1);
                Dances.wound(x, 1, 1);
                int[] who = {0, 2, 1, 3};
                for (int p = 0; p < 4; p++) {
                    int stood = who[p];
                    Asked.due("place(" + p + ", 0)", x.place(p, 0), stood == i ? j : stood == j ? i : stood);
                }
                Asked.due("the KIND goes along", x.dancer(0, 0), 1);
            }
        }
    }

    private static void putIsADeed() {
        Asked.under("DEEDS: a FIGURE is danced; two DANCERS are PUT in one another's place");
        RopeDance x = Dances.laid("d0,0;");
        x.put(0, 3);
        x.dance(REST);
        x.put(1, 0);
        Asked.due("count(3)", x.count(3), 3);
        Asked.due("undo()", x.undo(), 2);
        Dances.stand(x, 3, 1, 2, 0);
        Asked.due("undo()", x.undo(), 1);
        Dances.stand(x, 3, 1, 2, 0);
        Asked.due("undo()", x.undo(), 0);
        Dances.stand(x, 0, 1, 2, 3);
        Dances.ropes(x, 0, 0, 1, 1);
    }

    private static void undoneEight() {
        Asked.under("UNDONE are the latest of these (the last 8 can be).");
        for (int deeds = 0; deeds <= 20; deeds++) {
            RopeDance x = Dances.laid("d0,0;");
            Dances.times(x, deeds, TWIST);
            int can = Math.min(deeds, 8);
            Asked.due("count(3) behind " + deeds, x.count(3), can);
            for (int left = can - 1; left >= 0; left--) {
                Asked.due("undo()", x.undo(), left);
                Asked.due("wound(0)", x.wound(0), deeds - can + left);
                Asked.due("count(1)", x.count(1), deeds - can + left);
                Asked.due("count(2)", x.count(2), deeds - can + left == 0 ? 0 : 1);
            }
            Asked.due("undo() of no more", x.undo(), NO);
            Asked.due("wound(0)", x.wound(0), deeds - can);
        }
        RopeDance x = Dances.laid("d0,0;");
        Dances.times(x, 10, TWIST);
        for (int k = 0; k < 5; k++) {
            x.undo();
        }
        Dances.times(x, 7, BACK);
        Asked.due("count(3), 3 left and 7 more", x.count(3), 8);
        for (int k = 0; k < 8; k++) {
            x.undo();
        }
        Dances.wound(x, 4, 1);
        Asked.due("undo()", x.undo(), NO);
    }

    private static void undoneNone() {
        Asked.under("UNDONE: how many more can be. NO.");
        RopeDance x = new RopeDance();
        Asked.due("undo() of a new one", x.undo(), NO);
        x.dance(-1);
        x.put(2, 2);
        Asked.due("undo(): what is BAD is no DEED", x.undo(), NO);
        x.free(-1);
        x.evening(1, 60, 0);
        x.plain();
        Asked.due("undo(): what comes is no DEED", x.undo(), NO);
        x.dance(REST);
        Asked.due("undo() of a REST", x.undo(), 0);
        Asked.due("undo()", x.undo(), NO);
        Dances.counts(x, 5, 0, 0, 0, 0, 0, 0);
        x.dance(TWIST);
        Dances.tell(x, "r0;");
        x.see(1, 1, 1);
        x.keep();
        Asked.due("undo()", x.undo(), 0);
        Dances.counts(x, 5, 0, 0, 0, 1, 1, 3);
        x.dance(TWIST);
        x.back();
        Asked.due("undo() behind back()", x.undo(), NO);
        x.dance(TWIST);
        x.lay();
        Asked.due("undo() behind lay()", x.undo(), NO);
    }
}
