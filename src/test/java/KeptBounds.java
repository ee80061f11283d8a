import java.util.ArrayList;
import java.util.List;

/** KEPT, and how many there are of all, at their bounds, a test for each sentence. */
public final class KeptBounds {
    private static final int BAD = Dances.BAD, NO = Dances.NO, FULL = Dances.FULL;
    private static final int TWIST = Dances.TWIST, BACK = Dances.BACK, TURN = Dances.TURN, REST = Dances.REST;

    public static void main(String[] args) {
        keptTwo();
        keptAllAsItStands();
        keptNotWhatIsSeen();
        backToTheLast();
        backOfNone();
        countNumbers();
        countOfTheRow();
        countOfBeats();
        countOfWhatWasDoneLast();
        countOfTheOthers();
        Asked.end();
    }

    private static List<Integer> standOf(RopeDance x) {
        List<Integer> all = new ArrayList<>();
        for (int i = 0; i < 4; i++) {
            for (int what = 0; what < 3; what++) {
                all.add(x.dancer(i, what));
            }
        }
        all.add(x.wound(0));
        all.add(x.wound(1));
        all.add(x.count(1));
        all.add(x.count(2));
        return all;
    }

    private static void keptTwo() {
        Asked.under("KEPT: how many. FULL.");
        RopeDance x = new RopeDance();
        Asked.due("keep()", x.keep(), 1);
        Asked.due("keep()", x.keep(), 2);
        Asked.due("keep(), a third", x.keep(), FULL);
        Asked.due("keep(), a third once more", x.keep(), FULL);
        Asked.due("count(4)", x.count(4), 2);
        Asked.due("back()", x.back(), 1);
        Asked.due("keep()", x.keep(), 2);
        Asked.due("keep()", x.keep(), FULL);
        x.back();
        x.back();
        Asked.due("keep()", x.keep(), 1);
        Asked.under("KEPT is all as it stands, but what is SEEN: 2 at most.");
        x = Dances.laid("d0,0;");
        x.dance(TWIST);
        x.keep();
        x.dance(TWIST);
        x.keep();
        x.dance(TWIST);
        Asked.due("keep() of a third", x.keep(), FULL);
        Dances.wound(x, 3, 1);
        Asked.due("count(3) stays", x.count(3), 3);
        x.back();
        Asked.due("wound(0): the third was not KEPT", x.wound(0), 2);
        x.back();
        Asked.due("wound(0): the first still is", x.wound(0), 1);
    }

    private static void keptAllAsItStands() {
        Asked.under("KEPT is all as it stands");
        RopeDance x = Dances.laid("d0,5;d1,2;d2,1;d3,3;p0,1;p1,0;r0;");
        int[] figures = {TWIST, TURN, REST, BACK, TURN, TWIST, TURN, BACK, BACK, TURN};
        for (int k = 0; k < figures.length; k++) {
            List<Integer> before = standOf(x);
            Asked.due("keep()", x.keep(), 1);
            Asked.so("keep() leaves all as it stands", before.equals(standOf(x)));
            x.put(k % 4, (k + 1 + k / 4) % 4);
            Dances.dance(x, TURN, BACK, TWIST);
            Asked.due("back()", x.back(), 0);
            Asked.so("back() behind " + k, before.equals(standOf(x)));
            x.dance(figures[k]);
        }
        x = Dances.laid("d1,5;d2,2;");
        x.keep();
        Dances.dance(x, TWIST, REST);
        x.back();
        Asked.due("nothing was done yet: a STUBBORN one does what is told", x.dance(BACK), 9);
        x.lay();
        Dances.letLead(x, 2);
        x.keep();
        x.dance(REST);
        x.back();
        Asked.due("BEAT 0 is next: a LAZY one does it", x.dance(TWIST), 11);
    }

    private static void keptNotWhatIsSeen() {
        Asked.under("but what is SEEN");
        RopeDance x = Dances.laid("r0;");
        x.see(1, 2, 1);
        x.keep();
        x.see(0, 0, 1);
        x.back();
        Asked.due("count(5): what was SEEN since then stays", x.count(5), 2);
        Asked.due("kinds(1)", x.kinds(1), 8);
        x.keep();
        x.forget();
        x.back();
        Asked.due("count(5): what was forgotten since then stays so", x.count(5), 0);
        Asked.due("kinds(1)", x.kinds(1), 63);
    }

    private static void backToTheLast() {
        Asked.under("As KEPT last: how many are left; nothing is UNDONE then.");
        RopeDance x = Dances.laid("d0,0;");
        Dances.times(x, 3, TWIST);
        x.keep();
        Dances.times(x, 2, BACK);
        x.keep();
        Dances.dance(x, TURN, TURN, TURN);
        Asked.due("count(3)", x.count(3), 8);
        Asked.due("back()", x.back(), 1);
        Dances.wound(x, 1, 1);
        Asked.due("count(3)", x.count(3), 0);
        Asked.due("undo()", x.undo(), NO);
        Dances.times(x, 2, TWIST);
        Asked.due("count(3)", x.count(3), 2);
        Asked.due("back()", x.back(), 0);
        Dances.wound(x, 3, 1);
        Asked.due("count(1)", x.count(1), 3);
        Asked.due("count(3)", x.count(3), 0);
        Asked.due("undo()", x.undo(), NO);
        x.dance(REST);
        Asked.due("undo() of what was danced since then", x.undo(), 0);
        Dances.wound(x, 3, 1);
        x.keep();
        Asked.due("back() at once", x.back(), 0);
        Asked.due("undo()", x.undo(), NO);
        x.keep();
        x.undo();
        x.dance(TWIST);
        x.undo();
        Asked.due("undo() leaves what is KEPT", x.count(4), 1);
    }

    private static void backOfNone() {
        Asked.under("nothing is UNDONE then. NO.");
        RopeDance x = new RopeDance();
        Asked.due("back() of a new one", x.back(), NO);
        x.dance(TWIST);
        Asked.due("back() of none", x.back(), NO);
        Asked.due("count(3): what is refused takes nothing away", x.count(3), 1);
        x.keep();
        x.back();
        Asked.due("back() of no more", x.back(), NO);
        x.keep();
        Dances.tell(x, "r0;");
        x.lay();
        Asked.due("back() behind lay()", x.back(), NO);
        Asked.due("count(4)", x.count(4), 0);
    }

    private static void countNumbers() {
        Asked.under("How many: 0 FIGURES of THE ROW, 1 BEATS there were, 2 what was done last by TWIST or BACK"
                + " (0 nothing, 1 TWIST, 2 BACK), 3 that can be UNDONE, 4 KEPT, 5 SEEN, 6 letters of THE TEXT. BAD.");
        RopeDance x = new RopeDance();
        for (int what = -3; what <= 10; what++) {
            Asked.due("count(" + what + ")", x.count(what), what < 0 || what > 6 ? BAD : what == 0 ? 5 : 0);
        }
        Asked.due("count(least)", x.count(Dances.LEAST), BAD);
        Asked.due("count(greatest)", x.count(Dances.GREATEST), BAD);
        Dances.tell(x, "r");
        x.dance(REST);
        x.dance(BACK);
        x.dance(REST);
        x.keep();
        x.see(0, 0, 1);
        x.see(0, 0, 1);
        Dances.counts(x, 5, 3, 1, 3, 1, 2, 1);
    }

    private static void countOfTheRow() {
        Asked.under("0 FIGURES of THE ROW");
        for (int n = 0; n <= 12; n++) {
            RopeDance x = Dances.laid("d0,0;" + "r2;".repeat(n));
            Asked.due("count(0)", x.count(0), n);
            x.dance(TURN);
            Asked.due("count(0) stays", x.count(0), n);
        }
        RopeDance x = Dances.told("r0;r0;");
        Asked.due("count(0): what is told is not laid", x.count(0), 5);
    }

    private static void countOfBeats() {
        Asked.under("1 BEATS there were");
        RopeDance x = new RopeDance();
        for (int n = 0; n < 200; n++) {
            Asked.due("count(1)", x.count(1), n);
            x.dance(REST);
        }
        x.undo();
        Asked.due("count(1) behind undo()", x.count(1), 199);
    }

    private static void countOfWhatWasDoneLast() {
        Asked.under("2 what was done last by TWIST or BACK (0 nothing, 1 TWIST, 2 BACK)");
        RopeDance x = new RopeDance();
        Dances.dance(x, REST, TURN, TURN, TURN, TURN);
        Asked.due("count(2) at first", x.count(2), 0);
        x.dance(TWIST);
        Asked.due("count(2), a CROSS one told TWIST", x.count(2), 2);
        x.dance(TWIST);
        Asked.due("count(2), an EAGER one told TWIST", x.count(2), 1);
        x.dance(BACK);
        Asked.due("count(2), an EAGER one told BACK", x.count(2), 2);
        Dances.dance(x, TURN, REST);
        x.put(0, 1);
        Asked.due("count(2) stays", x.count(2), 2);
        for (int k = 0; k < 4; k++) {
            x.undo();
        }
        Asked.due("count(2), UNDONE", x.count(2), 1);
    }

    private static void countOfTheOthers() {
        Asked.under("3 that can be UNDONE, 4 KEPT, 5 SEEN, 6 letters of THE TEXT");
        RopeDance x = new RopeDance();
        for (int n = 0; n <= 10; n++) {
            Asked.due("count(3)", x.count(3), Math.min(n, 8));
            Asked.due("count(4)", x.count(4), Math.min(n, 2));
            Asked.due("count(5)", x.count(5), Math.min(n, 6));
            x.dance(REST);
            x.keep();
            x.see(0, 0, 1);
        }
        for (int n = 0; n <= 203; n++) {
            Asked.due("count(6)", x.count(6), Math.min(n, 200));
            x.write(' ');
        }
    }
}
