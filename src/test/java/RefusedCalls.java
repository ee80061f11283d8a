import java.util.ArrayList;
import java.util.List;

/**
 * Each call that is refused: the answer is the one told, of several reasons it is the first, and nothing has
 * changed behind it: another object to which the same was done, but for that call, answers all the same.
 */
public final class RefusedCalls {
    private static final int BAD = Dances.BAD, NO = Dances.NO, FULL = Dances.FULL, NONE = Dances.NONE;
    private static final int WRONG = Dances.WRONG, NOTHING = Dances.NOTHING;

    /** A call with one of its numbers left open. */
    private interface Call {
        int answer(RopeDance x, int number);
    }

    /** One number of a call: within its bounds it is not refused as none that is told, beyond them it is. */
    private record Bounds(String name, int low, int high, int refusal, Call call) {
    }

    private static final List<Bounds> ALL = new ArrayList<>();

    public static void main(String[] args) {
        listBounds();
        numbersThatAreNone();
        ofSeveralTheFirst();
        notAsThingsStand();
        thereIsNone();
        full();
        nothingChanges();
        anyNumber();
        Asked.end();
    }

    private static void add(String name, int low, int high, Call call) {
        ALL.add(new Bounds(name, low, high, BAD, call));
    }

    private static void addAny(String name, int low, int high, Call call) {
        ALL.add(new Bounds(name, low, high, WRONG, call));
    }

    private static void listBounds() {
        add("write(#)", 32, 126, (x, v) -> x.write(v));
        add("dancer(#, 0)", 0, 3, (x, v) -> x.dancer(v, 0));
        add("dancer(3, #)", 0, 2, (x, v) -> x.dancer(3, v));
        add("place(#, 1)", 0, 3, (x, v) -> x.place(v, 1));
        add("place(0, #)", 0, 1, (x, v) -> x.place(0, v));
        addAny("wound(#)", 0, 1, (x, v) -> x.wound(v));
        add("row(#)", 0, 11, (x, v) -> x.row(v));
        add("dance(#)", 0, 3, (x, v) -> x.dance(v));
        add("put(#, 0)", 1, 3, (x, v) -> x.put(v, 0));
        add("put(#, 3)", 0, 2, (x, v) -> x.put(v, 3));
        add("put(0, #)", 1, 3, (x, v) -> x.put(0, v));
        add("put(3, #)", 0, 2, (x, v) -> x.put(3, v));
        add("free(#)", -1, 6, (x, v) -> x.free(v));
        add("reach(#, 1, 0)", -99, 99, (x, v) -> x.reach(v, 1, 0));
        add("reach(1, #, 0)", 0, 99, (x, v) -> x.reach(1, v, 0));
        add("reach(-1, #, 0)", 1, 99, (x, v) -> x.reach(-1, v, 0));
        add("reach(#, 0, 0)", 1, 1, (x, v) -> x.reach(v, 0, 0));
        add("reach(1, 0, #)", -1, 6, (x, v) -> x.reach(1, 0, v));
        add("meet(#, 0, 0)", 1, 3, (x, v) -> x.meet(v, 0, 0));
        add("meet(3, #, 0)", 0, 2, (x, v) -> x.meet(3, v, 0));
        add("meet(1, 2, #)", -1, 6, (x, v) -> x.meet(1, 2, v));
        add("ways(#)", 0, 7, (x, v) -> x.ways(v));
        add("comes(#)", 0, 1, (x, v) -> x.comes(v));
        addAny("behind(#, 0)", 0, 12, (x, v) -> x.behind(v, 0));
        addAny("behind(0, #)", 0, 1, (x, v) -> x.behind(0, v));
        add("see(#, 0, 1)", 0, 12, (x, v) -> x.see(v, 0, 1));
        add("see(0, #, 1)", -99, 99, (x, v) -> x.see(0, v, 1));
        add("see(0, 1, #)", 0, 99, (x, v) -> x.see(0, 1, v));
        add("see(0, #, 0)", 1, 1, (x, v) -> x.see(0, v, 0));
        add("kinds(#)", 0, 3, (x, v) -> x.kinds(v));
        add("look(#, 0)", 0, 3, (x, v) -> x.look(v, 0));
        add("look(0, #)", 0, 1, (x, v) -> x.look(0, v));
        add("danced(#)", 0, 7, (x, v) -> x.danced(v));
        add("duel(#)", 0, 5, (x, v) -> x.duel(v));
        add("odds(#, 5, 0)", 0, 7, (x, v) -> x.odds(v, 5, 0));
        add("odds(7, #, 1)", 0, 10, (x, v) -> x.odds(7, v, 1));
        add("odds(7, 5, #)", 0, 1, (x, v) -> x.odds(7, 5, v));
        add("evening(#, 1, 0)", 0, 9999, (x, v) -> x.evening(v, 1, 0));
        add("evening(0, #, 0)", 1, 60, (x, v) -> x.evening(0, v, 0));
        add("evening(0, 1, #)", 0, 2, (x, v) -> x.evening(0, 1, v));
        add("count(#)", 0, 6, (x, v) -> x.count(v));
    }

    // ---- scenes, each made anew by the same calls

    private static final int SCENES = 6;

    private static RopeDance scene(int number) {
        switch (number) {
            case 0: return new RopeDance();
            case 1: return fullOfAll();
            case 2: return wound(9999 + 1);
            case 3: return endless();
            case 4: return empty();
            default: return fullText();
        }
    }

    private static RopeDance fullOfAll() {
        RopeDance x = Dances.laid("d0,1;d1,5;d2,3;d3,2;p0,2;p2,0;" + Dances.TWELVE);
        for (int k = 0; k < 6; k++) {
            x.dance(k % 3);
            x.see(k, k - 3, 1);
            x.keep();
            x.put(k % 4, (k + 1) % 4);
        }
        return x;
    }

    private static RopeDance wound(int sum) {
        RopeDance x = Dances.laid("r0;r1;r2;");
        int[] fraction = Dances.fractionWith(sum, 1);
        Dances.windTo(x, fraction[0], fraction[1]);
        x.keep();
        return x;
    }

    private static RopeDance endless() {
        RopeDance x = Dances.laid("d1,3;r3;r2;");
        x.dance(Dances.TURN);
        x.see(1, 0, 1);
        Dances.tell(x, "d4");
        return x;
    }

    private static RopeDance empty() {
        RopeDance x = Dances.laid("d2,4;");
        x.wipe();
        return x;
    }

    private static RopeDance fullText() {
        RopeDance x = Dances.told("d1,1;".repeat(36) + "d0,4;d0,5;p2,3;p3,2;");
        x.dance(Dances.TWIST);
        x.keep();
        return x;
    }

    private static void sameAs(String what, int number, RopeDance x) {
        Asked.so(what + " changed nothing in scene " + number,
                Dances.drained(x).equals(Dances.drained(scene(number))));
    }

    // ---- the tests

    private static void numbersThatAreNone() {
        Asked.under("BAD: a number is none that is told.");
        for (int number = 0; number < SCENES; number++) {
            for (Bounds b : ALL) {
                int[] beyond = {b.low - 1, b.high + 1, Dances.LEAST, Dances.GREATEST, b.low - 256, b.high + 65536};
                RopeDance x = scene(number);
                for (int value : beyond) {
                    Asked.due(b.name + " by " + value, b.call.answer(x, value), b.refusal);
                }
                for (int value : new int[] {b.low, b.high}) {
                    Asked.so(b.name + " by " + value + " is told",
                            b.call.answer(scene(number), value) != b.refusal);
                }
            }
        }
    }

    private static void nothingChanges() {
        Asked.under("nothing changes then");
        for (int number = 0; number < SCENES; number++) {
            for (Bounds b : ALL) {
                RopeDance x = scene(number);
                b.call.answer(x, b.low - 1);
                b.call.answer(x, b.high + 1);
                b.call.answer(x, Dances.LEAST);
                b.call.answer(x, Dances.GREATEST);
                sameAs(b.name + " beyond its bounds", number, x);
            }
        }
        int[][] refused = {{1, 0}, {1, 1}, {1, 2}, {2, 3}, {3, 4}, {4, 4}, {5, 5}, {0, 4}, {0, 6}, {3, 7}, {4, 6}};
        for (int[] pair : refused) {
            RopeDance x = scene(pair[0]);
            Asked.so("refusal " + pair[1] + " in scene " + pair[0], refuse(x, pair[1]) < 0);
            sameAs("refusal " + pair[1], pair[0], x);
        }
        for (int number = 0; number < SCENES; number++) {
            RopeDance x = scene(number);
            x.put(0, 0);
            x.put(3, 3);
            x.meet(2, 2, 0);
            x.reach(2, 2, 0);
            x.see(0, 2, 4);
            x.see(0, 0, 0);
            sameAs("what is alike or not in lowest terms", number, x);
        }
    }

    private static int refuse(RopeDance x, int which) {
        switch (which) {
            case 0: return x.see(0, 0, 1);
            case 1: return x.keep();
            case 2: return x.see(12, 1, 0);
            case 3: return x.dance(Dances.TWIST);
            case 4: return x.lay();
            case 5: return x.write('r');
            case 6: return x.undo();
            default: return x.back();
        }
    }

    private static void ofSeveralTheFirst() {
        Asked.under("Of several the first");
        RopeDance full = fullText();
        Asked.due("write(31), FULL too", full.write(31), BAD);
        Asked.due("write(127), FULL too", full.write(127), BAD);
        RopeDance seen = fullOfAll();
        Asked.due("see(13, 0, 1), FULL too", seen.see(13, 0, 1), BAD);
        Asked.due("see(-1, 0, 1), FULL too", seen.see(-1, 0, 1), BAD);
        Asked.due("see(0, 100, 1), FULL too", seen.see(0, 100, 1), BAD);
        Asked.due("see(0, 2, 2), FULL too", seen.see(0, 2, 2), BAD);
        RopeDance tight = wound(10000);
        Asked.due("dance(4), TOO TIGHT", tight.dance(4), BAD);
        Asked.due("dance(-1), TOO TIGHT", tight.dance(-1), BAD);
        Asked.due("free(7), of none", tight.free(7), BAD);
        Asked.due("free(-2), of none", tight.free(-2), BAD);
        Asked.due("reach(1, 1, 7), of none", tight.reach(1, 1, 7), BAD);
        Asked.due("reach(2, 2, 0), of none", tight.reach(2, 2, 0), BAD);
        Asked.due("behind(12, 2), TOO TIGHT", tight.behind(12, 2), WRONG);
        Asked.due("behind(13, 0), TOO TIGHT", tight.behind(13, 0), WRONG);
        RopeDance eager = Dances.laid("d0,3;d1,3;d2,3;d3,3;");
        Asked.due("meet(0, 2, 7), of none", eager.meet(0, 2, 7), BAD);
        Asked.due("meet(0, 2, -2), of none", eager.meet(0, 2, -2), BAD);
        Asked.due("row(12), of none", eager.row(12), BAD);
        Asked.due("row(-1), of none", eager.row(-1), BAD);
        eager.see(0, 1, 1);
        Asked.due("look(4, 0), of none", eager.look(4, 0), BAD);
        Asked.due("look(0, 2), of none", eager.look(0, 2), BAD);
    }

    private static void notAsThingsStand() {
        Asked.under("NO: not as things stand.");
        RopeDance x = empty();
        Asked.due("lay() of the empty TEXT", x.lay(), NO);
        Asked.due("undo() of nothing", x.undo(), NO);
        Asked.due("back() of nothing", x.back(), NO);
        Asked.due("lay() with a FAULT", endless().lay(), NO);
        Asked.due("lay() of two at one PLACE", Dances.told("p0,1;").lay(), NO);
        Asked.due("dance(TWIST), TOO TIGHT", wound(10000).dance(Dances.TWIST), NO);
        Asked.due("NO", RopeDance.NO, -2);
    }

    private static void thereIsNone() {
        Asked.under("NONE: there is none.");
        RopeDance x = wound(10000);
        Asked.due("free(-1)", x.free(-1), NONE);
        Asked.due("reach(1, 1, -1)", x.reach(1, 1, -1), NONE);
        Asked.due("fault()", x.fault(), NONE);
        Asked.due("row(3)", x.row(3), NONE);
        RopeDance y = Dances.laid("d0,3;d1,3;d2,3;d3,3;");
        Asked.due("meet(0, 2, -1)", y.meet(0, 2, -1), NONE);
        Asked.due("free(0) of 0", y.free(0), NONE);
        RopeDance z = Dances.laid("d0,1;d1,1;d2,1;d3,1;r0;");
        z.dance(Dances.TWIST);
        Asked.due("plain()", z.plain(), NONE);
        z.see(0, 1, 0);
        Asked.due("look(0, 0)", z.look(0, 0), NONE);
        Asked.due("NONE", RopeDance.NONE, -4);
    }

    private static void full() {
        Asked.under("FULL.");
        RopeDance x = fullText();
        Asked.due("write", x.write(';'), FULL);
        RopeDance y = fullOfAll();
        Asked.due("see", y.see(0, 0, 1), FULL);
        Asked.due("keep()", y.keep(), FULL);
        Asked.due("FULL", RopeDance.FULL, -3);
        Asked.due("BAD", RopeDance.BAD, -1);
    }

    private static void anyNumber() {
        Asked.under("Where any number is told, BAD is -100000, NONE -100001.");
        RopeDance x = wound(10000);
        Asked.due("wound(2)", x.wound(2), WRONG);
        Asked.due("behind(0, 2)", x.behind(0, 2), WRONG);
        Asked.due("behind(1, 0)", x.behind(1, 0), NOTHING);
        Asked.due("behind(1, 1)", x.behind(1, 1), NOTHING);
        Asked.due("behind(12, 0)", x.behind(12, 0), NOTHING);
        Asked.so("behind(0, 0)", x.behind(0, 0) == x.wound(0));
        Asked.due("WRONG", RopeDance.WRONG, -100000);
        Asked.due("NOTHING", RopeDance.NOTHING, -100001);
    }
}
