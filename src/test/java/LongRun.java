/** Runs of 512 calls on one object: the last answers are as due as the first. */
public final class LongRun {
    private static final int CALLS = 512;
    private static final int TWIST = Dances.TWIST, BACK = Dances.BACK, TURN = Dances.TURN, REST = Dances.REST;

    public static void main(String[] args) {
        Asked.under("An object is used for at most 512 calls after it has been made");
        twists();
        eagerTwists();
        turns();
        rests();
        letters();
        danceAndUndo();
        keepAndBack();
        seeAndForget();
        layAgain();
        theDearest();
        Asked.end();
    }

    private static void twists() {
        RopeDance x = new RopeDance();
        Dances.tell(x, "d0,0;");
        x.lay();
        for (int call = 7; call <= CALLS; call++) {
            Asked.due("call " + call, x.dance(TWIST), 11);
        }
        RopeDance y = Dances.laid("d0,0;");
        for (int n = 0; n < CALLS - 6 - 4; n++) {
            y.dance(BACK);
        }
        Asked.due("wound(0)", y.wound(0), -502);
        Asked.due("wound(1)", y.wound(1), 1);
        Asked.due("count(1)", y.count(1), 502);
        Asked.due("count(3)", y.count(3), 8);
    }

    private static void eagerTwists() {
        RopeDance x = Dances.laid("d1,3;");
        for (int n = 0; n < CALLS - 6 - 2; n++) {
            Asked.due("dance(TWIST)", x.dance(TWIST), 12);
        }
        Asked.due("wound(0)", x.wound(0), 1008);
        Asked.due("plain()", x.plain(), Dances.NONE);
    }

    private static void turns() {
        RopeDance x = new RopeDance();
        for (int n = 0; n < CALLS - 3; n++) {
            Asked.due("dance(TURN)", x.dance(TURN), 10);
        }
        Asked.due("place(0, 0)", x.place(0, 0), 3);
        Asked.due("wound(0)", x.wound(0), 1);
        Asked.due("wound(1)", x.wound(1), 0);
    }

    private static void rests() {
        RopeDance x = Dances.laid("d1,2;");
        for (int n = 0; n < CALLS - 6 - 3; n++) {
            x.dance(REST);
        }
        Asked.due("a LAZY one in BEAT 503", x.dance(TWIST), 10);
        Asked.due("a LAZY one in BEAT 504", x.dance(TWIST), 11);
        Asked.due("count(1)", x.count(1), 505);
    }

    private static void letters() {
        RopeDance x = new RopeDance();
        for (int n = 1; n <= CALLS - 1; n++) {
            Asked.due("write, the " + n + "th", x.write('r'), n <= 200 ? n : Dances.FULL);
        }
        Asked.due("count(6)", x.count(6), 200);
        RopeDance y = new RopeDance();
        for (int n = 0; n < CALLS / 2; n++) {
            Asked.due("write", y.write(';'), 1);
            Asked.due("wipe()", y.wipe(), 1);
        }
    }

    private static void danceAndUndo() {
        RopeDance x = Dances.laid("d0,0;");
        for (int n = 0; n < 252; n++) {
            x.dance(n % 3);
            Asked.due("undo()", x.undo(), 0);
        }
        Asked.due("undo()", x.undo(), Dances.NO);
        Asked.due("count(1)", x.count(1), 0);
        RopeDance y = Dances.laid("d0,0;");
        for (int n = 0; n < 166; n++) {
            y.dance(TWIST);
            y.dance(TWIST);
            Asked.due("undo(), the pile going round", y.undo(), Math.min(n + 1, 7));
        }
        Asked.due("wound(0)", y.wound(0), 166);
        for (int left = 6; left >= 0; left--) {
            Asked.due("undo()", y.undo(), left);
        }
    }

    private static void keepAndBack() {
        RopeDance x = Dances.laid("d0,0;");
        for (int n = 0; n < 101; n++) {
            Asked.due("keep()", x.keep(), 1);
            x.dance(TWIST);
            Asked.due("keep()", x.keep(), 2);
            Asked.due("back()", x.back(), 1);
            Asked.due("back()", x.back(), 0);
        }
        Asked.due("wound(0)", x.wound(0), 0);
    }

    private static void seeAndForget() {
        RopeDance x = new RopeDance();
        for (int n = 0; n < 64; n++) {
            for (int k = 1; k <= 6; k++) {
                Asked.due("see", x.see(k, 1, 0), k);
            }
            Asked.due("see", x.see(0, 0, 1), Dances.FULL);
            Asked.due("forget()", x.forget(), 6);
        }
    }

    private static void layAgain() {
        RopeDance x = Dances.told("d1,5;r1;p0,3;p3,0;");
        for (int n = 0; n < 98; n++) {
            Asked.due("lay()", x.lay(), 1);
            Asked.due("dance(BACK)", x.dance(n % 2), n % 2 == 0 ? 11 : 9);
            x.put(0, 1);
            x.keep();
            x.see(1, 1, 1);
        }
        x.lay();
        Asked.due("count(3)", x.count(3), 0);
        Asked.due("place(0, 0)", x.place(0, 0), 3);
    }

    private static void theDearest() {
        RopeDance x = Dances.laid(Dances.TWELVE);
        Dances.times(x, 9, TWIST);
        int first = x.ways(7) + 3 * x.danced(7) + 5 * x.duel(5) + 7 * x.odds(7, 5, 0) + 11 * x.look(1, 0);
        for (int n = 0; n < 50; n++) {
            Asked.due("free(-1)", x.free(-1), Dances.NONE);
            Asked.due("reach(99, 98, 6)", x.reach(99, 98, 6), Dances.NONE);
            Asked.due("as at first", x.ways(7) + 3 * x.danced(7) + 5 * x.duel(5) + 7 * x.odds(7, 5, 0)
                    + 11 * x.look(1, 0), first);
            x.evening(9999, 60, 0);
            x.plain();
        }
        Asked.due("wound(0)", x.wound(0), 9);
    }
}
