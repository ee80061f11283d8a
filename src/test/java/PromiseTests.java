/** The promises one by one: ordinary calls, the edges that the document names, and wrong inputs. */
public final class PromiseTests {
    private static final int BAD = -1, NO = -2, FULL = -3, NONE = -4, WRONG = -100000, NOTHING = -100001;
    private static final int TWIST = 0, BACK = 1, TURN = 2, REST = 3;
    private static final int[] FAR = {Integer.MIN_VALUE, -100000, 100000, Integer.MAX_VALUE};
    private static final int PROMISES = 30;
    private static final int[] askedOf = new int[PROMISES + 1];
    private static int wrong = 0;
    private static int asked = 0;

    private static void due(int promise, String call, int got, int want) {
        asked++;
        askedOf[promise]++;
        if (got != want) {
            wrong++;
            System.out.println("promise " + promise + ": " + call + " answered " + got + ", due is " + want);
        }
    }

    public static void main(String[] args) {
        newObject();
        write();
        wipe();
        fault();
        lay();
        dancer();
        place();
        wound();
        row();
        dance();
        kindsOfDancers();
        tooTight();
        put();
        undo();
        free();
        reach();
        meet();
        ways();
        plain();
        comes();
        behind();
        see();
        forget();
        kinds();
        look();
        danced();
        duel();
        odds();
        evening();
        keepAndBack();
        count();
        everyPromiseAsked();
        System.out.println(asked + " answers asked for, " + wrong + " not as due");
        if (wrong != 0) {
            System.exit(1);
        }
    }

    private static void everyPromiseAsked() {
        for (int promise = 1; promise <= PROMISES; promise++) {
            if (askedOf[promise] == 0) {
                wrong++;
                System.out.println("promise " + promise + ": nothing was asked");
            }
        }
    }

    private static RopeDance plainFour() {
        return Dances.laid("d0,0;");
    }

    private static void danceAll(RopeDance x, int... figures) {
        for (int figure : figures) {
            x.dance(figure);
        }
    }

    private static void isWound(int promise, RopeDance x, int u, int l) {
        due(promise, "wound(0)", x.wound(0), u);
        due(promise, "wound(1)", x.wound(1), l);
    }

    private static void stand(int promise, RopeDance x, int... who) {
        for (int p = 0; p < 4; p++) {
            due(promise, "place(" + p + ", 0)", x.place(p, 0), who[p]);
        }
    }

    private static void counts(int promise, RopeDance x, int... want) {
        for (int what = 0; what < 7; what++) {
            due(promise, "count(" + what + ")", x.count(what), want[what]);
        }
    }

    private static void newObject() {
        RopeDance x = new RopeDance();
        counts(1, x, 5, 0, 0, 0, 0, 0, 0);
        isWound(1, x, 0, 1);
        stand(1, x, 0, 1, 2, 3);
        int[] kinds = {0, 1, 3, 2};
        int[] ropes = {0, 0, 1, 1};
        int[] row = {0, 0, 2, 1, 2};
        for (int i = 0; i < 4; i++) {
            due(1, "dancer(" + i + ", 0)", x.dancer(i, 0), kinds[i]);
            due(1, "dancer(" + i + ", 1)", x.dancer(i, 1), i);
            due(1, "dancer(" + i + ", 2)", x.dancer(i, 2), ropes[i]);
        }
        for (int k = 0; k < 5; k++) {
            due(1, "row(" + k + ")", x.row(k), row[k]);
        }
        due(1, "undo()", x.undo(), NO);
        due(1, "back()", x.back(), NO);
        due(1, "lay() of no text", x.lay(), NO);
        due(1, "BAD", RopeDance.BAD, -1);
        due(1, "NO", RopeDance.NO, -2);
        due(1, "FULL", RopeDance.FULL, -3);
        due(1, "NONE", RopeDance.NONE, -4);
        due(1, "WRONG", RopeDance.WRONG, -100000);
        due(1, "NOTHING", RopeDance.NOTHING, -100001);
    }

    private static void write() {
        RopeDance x = new RopeDance();
        due(2, "write(32)", x.write(32), 1);
        due(2, "write(126)", x.write(126), 2);
        for (int letter : new int[] {31, 127, 0, -1, 255, 32 + 256, Integer.MIN_VALUE, Integer.MAX_VALUE}) {
            due(2, "write(" + letter + ")", x.write(letter), BAD);
        }
        for (int n = 3; n <= 200; n++) {
            due(2, "write(32)", x.write(32), n);
        }
        due(2, "write(32), the 201st", x.write(32), FULL);
        due(2, "write(31) of a full one", x.write(31), BAD);
        due(2, "count(6)", x.count(6), 200);
        due(2, "wipe()", x.wipe(), 200);
        due(2, "write(32)", x.write(32), 1);
    }

    private static void wipe() {
        RopeDance x = new RopeDance();
        due(3, "wipe()", x.wipe(), 0);
        Dances.tell(x, "r0;");
        due(3, "wipe()", x.wipe(), 3);
        due(3, "wipe()", x.wipe(), 0);
        due(3, "lay()", x.lay(), NO);
        due(3, "count(0)", x.count(0), 5);
        Dances.tell(x, "r1;");
        due(3, "lay()", x.lay(), 1);
        x.wipe();
        due(3, "row(0) stays", x.row(0), 1);
    }

    private static void faultOf(String text, int want) {
        RopeDance x = new RopeDance();
        Dances.tell(x, text);
        due(4, "fault() of " + text, x.fault(), want);
        if (want != NONE) {
            due(5, "lay() of " + text, x.lay(), NO);
        }
    }

    private static void fault() {
        String twelve = "r0;r1;r2;r3;r0;r1;r2;r3;r0;r1;r2;r3;";
        for (String so : new String[] {"", "d0,0;", "d3,5;", "p0,0;", "p3,3;", "p0,3;", "r0;", "r3;", twelve,
            twelve + "d0,1;p1,1;", "d0,1;d0,2;", "p0,1;p1,1;"}) {
            faultOf(so, NONE);
        }
        for (String bad : new String[] {"d", "d0", "d0,", "d0,0", "p", "p0,0", "r", "r0", ";", "x0;", "D0,0;", "R0;",
            "d4,0;", "d0,6;", "p4,0;", "p0,4;", "r4;", "d0;0;", "d0,0,", "p0;", "r0,", "r0,0;", "r00;", "d00,0;",
            "d0,00;", "d,0;", "d0,;", "r;", "r-1;", " r0;", "r 0;", "r0 ;", "d0,0 ;", "p0 ,0;", "d/,0;", "d0,/;"}) {
            faultOf(bad, 0);
            faultOf("r0;" + bad, 3);
            faultOf("d1,4;p2,2;" + bad + "x", 10);
        }
        faultOf("r0;;", 3);
        faultOf("d0,0; ", 5);
        faultOf("r9;d9,9;", 0);
        faultOf(twelve + "r0;", 36);
        faultOf(twelve + "d0,0;r0;", 41);
        faultOf(twelve + "r0", 36);
        faultOf(twelve + "r0;d9,9;", 36);
    }

    private static void lay() {
        RopeDance x = new RopeDance();
        Dances.tell(x, "d0,1;d0,4;p0,2;p0,3;p3,0;d3,5;r3;r1;");
        due(5, "lay()", x.lay(), 2);
        due(5, "count(6)", x.count(6), 36);
        int[] kinds = {4, 0, 0, 5};
        for (int i = 0; i < 4; i++) {
            due(5, "dancer(" + i + ", 0)", x.dancer(i, 0), kinds[i]);
        }
        stand(5, x, 3, 1, 2, 0);
        int[] ropes = {1, 0, 1, 0};
        for (int i = 0; i < 4; i++) {
            due(5, "dancer(" + i + ", 2)", x.dancer(i, 2), ropes[i]);
        }
        due(5, "row(0)", x.row(0), 3);
        due(5, "row(1)", x.row(1), 1);
        due(5, "row(2)", x.row(2), NONE);
        danceAll(x, TWIST, TURN, TWIST);
        x.see(0, 0, 1);
        x.keep();
        x.dance(REST);
        due(5, "lay() once more", x.lay(), 2);
        counts(5, x, 2, 0, 0, 0, 0, 0, 36);
        stand(5, x, 3, 1, 2, 0);
        isWound(5, x, 0, 1);
        due(5, "undo()", x.undo(), NO);
        due(5, "back()", x.back(), NO);
        layRefused();
    }

    private static void layRefused() {
        RopeDance x = new RopeDance();
        danceAll(x, TWIST, TURN);
        x.see(1, 1, 1);
        x.keep();
        int before = x.wound(0);
        for (String text : new String[] {"p0,1;", "p0,3;p1,3;", "d0,0;r9;", "p0,1;p1,2;p2,3;", "d0,9;"}) {
            x.wipe();
            int length = Dances.tell(x, text);
            due(5, "lay() of " + text, x.lay(), NO);
            counts(5, x, 5, 2, 2, 2, 1, 1, length);
            due(5, "wound(0)", x.wound(0), before);
            due(5, "dancer(2, 0)", x.dancer(2, 0), 3);
            due(5, "row(4)", x.row(4), 2);
        }
        x.wipe();
        Dances.tell(x, "p0,1;p1,2;p2,3;p3,0;");
        due(5, "lay()", x.lay(), 0);
        stand(5, x, 3, 0, 1, 2);
        due(5, "place(0, 1)", x.place(0, 1), 0);
        due(5, "place(1, 1)", x.place(1, 1), 0);
        due(5, "place(2, 1)", x.place(2, 1), 1);
        due(5, "place(3, 1)", x.place(3, 1), 1);
    }

    private static void dancer() {
        RopeDance x = new RopeDance();
        due(6, "dancer(-1, 0)", x.dancer(-1, 0), BAD);
        due(6, "dancer(4, 0)", x.dancer(4, 0), BAD);
        due(6, "dancer(0, -1)", x.dancer(0, -1), BAD);
        due(6, "dancer(0, 3)", x.dancer(0, 3), BAD);
        for (int far : FAR) {
            due(6, "dancer(" + far + ", 0)", x.dancer(far, 0), BAD);
            due(6, "dancer(0, " + far + ")", x.dancer(0, far), BAD);
        }
        x.dance(TURN);
        for (int i = 0; i < 4; i++) {
            due(6, "dancer(" + i + ", 1)", x.dancer(i, 1), (i + 1) % 4);
            due(6, "dancer(" + i + ", 2)", x.dancer(i, 2), i / 2);
        }
    }

    private static void place() {
        RopeDance x = new RopeDance();
        due(7, "place(-1, 0)", x.place(-1, 0), BAD);
        due(7, "place(4, 0)", x.place(4, 0), BAD);
        due(7, "place(0, -1)", x.place(0, -1), BAD);
        due(7, "place(0, 2)", x.place(0, 2), BAD);
        for (int far : FAR) {
            due(7, "place(" + far + ", 0)", x.place(far, 0), BAD);
            due(7, "place(0, " + far + ")", x.place(0, far), BAD);
        }
        x.dance(TURN);
        stand(7, x, 3, 0, 1, 2);
        int[] ropes = {1, 0, 0, 1};
        for (int p = 0; p < 4; p++) {
            due(7, "place(" + p + ", 1)", x.place(p, 1), ropes[p]);
        }
    }

    private static void wound() {
        RopeDance x = plainFour();
        due(8, "wound(-1)", x.wound(-1), WRONG);
        due(8, "wound(2)", x.wound(2), WRONG);
        for (int far : FAR) {
            due(8, "wound(" + far + ")", x.wound(far), WRONG);
        }
        isWound(8, x, 0, 1);
        x.dance(TURN);
        isWound(8, x, 1, 0);
        x.dance(TWIST);
        isWound(8, x, 1, 0);
        x.dance(BACK);
        isWound(8, x, 1, 0);
        x.dance(TURN);
        isWound(8, x, 0, 1);
        danceAll(x, BACK, BACK);
        isWound(8, x, -2, 1);
        x.dance(TURN);
        isWound(8, x, 1, 2);
        x.dance(BACK);
        isWound(8, x, -1, 2);
        x.dance(TURN);
        isWound(8, x, 2, 1);
        x.dance(REST);
        isWound(8, x, 2, 1);
        x.dance(TURN);
        isWound(8, x, -1, 2);
    }

    private static void row() {
        RopeDance x = new RopeDance();
        due(9, "row(5)", x.row(5), NONE);
        due(9, "row(11)", x.row(11), NONE);
        due(9, "row(12)", x.row(12), BAD);
        due(9, "row(-1)", x.row(-1), BAD);
        for (int far : FAR) {
            due(9, "row(" + far + ")", x.row(far), BAD);
        }
        x = Dances.laid("r3;r2;r1;r0;r3;r2;r1;r0;r3;r2;r1;r2;");
        int[] row = {3, 2, 1, 0, 3, 2, 1, 0, 3, 2, 1, 2};
        for (int k = 0; k < 12; k++) {
            due(9, "row(" + k + ")", x.row(k), row[k]);
        }
        due(9, "row(12)", x.row(12), BAD);
    }

    private static void dance() {
        RopeDance x = plainFour();
        due(10, "dance(-1)", x.dance(-1), BAD);
        due(10, "dance(4)", x.dance(4), BAD);
        for (int far : FAR) {
            due(10, "dance(" + far + ")", x.dance(far), BAD);
        }
        counts(10, x, 0, 0, 0, 0, 0, 0, 5);
        due(10, "dance(REST)", x.dance(REST), 10);
        counts(10, x, 0, 1, 0, 1, 0, 0, 5);
        due(10, "dance(TWIST)", x.dance(TWIST), 11);
        stand(10, x, 0, 2, 1, 3);
        counts(10, x, 0, 2, 1, 2, 0, 0, 5);
        due(10, "dance(BACK)", x.dance(BACK), 9);
        stand(10, x, 0, 1, 2, 3);
        counts(10, x, 0, 3, 2, 3, 0, 0, 5);
        due(10, "dance(TURN)", x.dance(TURN), 10);
        stand(10, x, 3, 0, 1, 2);
        counts(10, x, 0, 4, 2, 4, 0, 0, 5);
        due(10, "dance(TWIST), ENDLESS", x.dance(TWIST), 11);
        stand(10, x, 3, 1, 0, 2);
        due(10, "count(2)", x.count(2), 1);
    }

    private static void kindsOfDancers() {
        RopeDance x = Dances.laid("d1,1;");
        due(10, "CROSS TWIST", x.dance(TWIST), 9);
        due(10, "count(2)", x.count(2), 2);
        isWound(10, x, -1, 1);
        x.lay();
        due(10, "CROSS BACK", x.dance(BACK), 11);
        due(10, "count(2)", x.count(2), 1);

        x = Dances.laid("d1,2;");
        x.dance(REST);
        due(10, "LAZY in BEAT 1", x.dance(TWIST), 10);
        counts(10, x, 0, 2, 0, 2, 0, 0, 5);
        stand(10, x, 0, 1, 2, 3);
        isWound(10, x, 0, 1);
        due(10, "LAZY in BEAT 2", x.dance(BACK), 9);
        isWound(10, x, -1, 1);

        x = Dances.laid("d1,3;");
        due(10, "EAGER TWIST", x.dance(TWIST), 12);
        stand(10, x, 0, 1, 2, 3);
        isWound(10, x, 2, 1);
        due(10, "count(1)", x.count(1), 1);
        due(10, "EAGER BACK", x.dance(BACK), 8);
        isWound(10, x, 0, 1);
        due(10, "count(2)", x.count(2), 2);

        x = Dances.laid("d1,4;d0,4;");
        due(10, "SHY beside the other ROPE", x.dance(TWIST), 11);
        x.lay();
        x.dance(TURN);
        due(10, "SHY beside its own ROPE", x.dance(TWIST), 10);
        stand(10, x, 3, 0, 1, 2);
        due(10, "count(2)", x.count(2), 0);
        x.put(1, 3);
        due(10, "SHY by its ROPE, not by who", x.dance(TWIST), 10);
        due(10, "dancer(3, 2)", x.dancer(3, 2), 0);
        stubborn();
    }

    private static void stubborn() {
        RopeDance x = Dances.laid("d1,5;");
        due(10, "STUBBORN at first", x.dance(BACK), 9);
        x = Dances.laid("d1,5;d2,1;");
        danceAll(x, TWIST);
        due(10, "CROSS told TWIST", x.dance(TWIST), 9);
        due(10, "STUBBORN behind it, told TWIST", x.dance(TWIST), 9);
        due(10, "CROSS told BACK", x.dance(BACK), 11);
        danceAll(x, REST);
        due(10, "STUBBORN, told BACK, behind a REST", x.dance(BACK), 11);
        due(10, "count(2)", x.count(2), 1);
        x = Dances.laid("d1,5;d2,3;");
        x.dance(TWIST);
        due(10, "EAGER told BACK", x.dance(BACK), 8);
        x.put(1, 2);
        due(10, "STUBBORN does one, not two", x.dance(TWIST), 9);
        x.lay();
        x.dance(BACK);
        x.undo();
        due(10, "STUBBORN, what was done being undone", x.dance(TWIST), 11);
    }

    private static void tooTight() {
        int[] just = Dances.fractionWith(9999, 1);
        int[] above = Dances.fractionWith(10000, 1);
        RopeDance x = plainFour();
        Dances.windTo(x, just[0], just[1]);
        due(10, "dance(TWIST) up to 9999", x.dance(TWIST), 11);
        isWound(10, x, 9999, just[1]);
        due(10, "dance(TURN)", x.dance(TURN), 10);
        isWound(10, x, -just[1], 9999);
        due(10, "dance(BACK)", x.dance(BACK), NO);
        x = plainFour();
        Dances.windTo(x, above[0], above[1]);
        int beats = x.count(1);
        int order = x.place(1, 0);
        due(10, "dance(TWIST) up to 10000", x.dance(TWIST), NO);
        isWound(10, x, above[0], above[1]);
        due(10, "count(1)", x.count(1), beats);
        due(10, "count(3)", x.count(3), 8);
        due(10, "place(1, 0)", x.place(1, 0), order);
        due(10, "dance(REST)", x.dance(REST), 10);
        due(10, "undo()", x.undo(), 7);
        x = plainFour();
        Dances.windTo(x, -just[0], just[1]);
        due(10, "dance(BACK) down to -9999", x.dance(BACK), 9);
        x = plainFour();
        Dances.windTo(x, -above[0], above[1]);
        due(10, "dance(BACK) down to -10000", x.dance(BACK), NO);
        tightByKind(above);
        tightAhead(above);
    }

    private static void tightByKind(int[] above) {
        int[] justTwice = Dances.fractionWith(9999, 2);
        int[] aboveTwice = Dances.fractionWith(10000 + 1, 2);
        RopeDance x = Dances.laid("d0,3;");
        Dances.windTo(x, justTwice[0], justTwice[1]);
        Dances.letLead(x, 0);
        due(10, "EAGER up to 9999", x.dance(TWIST), 12);
        x = Dances.laid("d0,3;");
        Dances.windTo(x, aboveTwice[0], aboveTwice[1]);
        Dances.letLead(x, 0);
        due(10, "EAGER up to 10001", x.dance(TWIST), NO);
        x = Dances.laid("d0,1;");
        Dances.windTo(x, above[0], above[1]);
        Dances.letLead(x, 0);
        due(10, "CROSS told BACK up to 10000", x.dance(BACK), NO);
        due(10, "CROSS told TWIST", x.dance(TWIST), 9);
    }

    /** The figures 0, 1, 2 of THE ROW, of which the first can not be danced. */
    private static void tightAhead(int[] above) {
        RopeDance x = Dances.laid("r3;r0;r1;r2;");
        Dances.windTo(x, above[0], above[1]);
        int corner = x.place(0, 0);
        due(18, "comes(0)", x.comes(0), 1);
        due(18, "comes(1)", x.comes(1), corner);
        due(19, "behind(1, 0)", x.behind(1, 0), above[0]);
        due(19, "behind(2, 0)", x.behind(2, 0), NOTHING);
        due(19, "behind(12, 1)", x.behind(12, 1), NOTHING);
        due(19, "behind(2, 2)", x.behind(2, 2), WRONG);
        due(25, "duel(1), no TWIST", x.duel(1), Math.max(above[0], above[1]));
        // Behind a REST for the TWIST, a BACK and a TURN, nothing is wound off.
        due(26, "odds(2, 0, 0)", x.odds(2, 0, 0), 0);
        due(26, "odds(2, 0, 1)", x.odds(2, 0, 1), 1);
        int across = x.place(2, 0);
        isRow(15, x, new int[] {corner, across}, BACK);
        x.see(2, 1, 1);
        due(22, "kinds of who does not lead", x.kinds(corner), 0);
        x.forget();
        lookAtTight(x);
    }

    /** PLAIN, LAZY, EAGER, SHY and, behind a TWIST, STUBBORN are TOO TIGHT alike; a CROSS one goes back. */
    private static void lookAtTight(RopeDance x) {
        if (x.count(1) % 2 == 0) {
            x.dance(REST);
        }
        due(23, "the ROPES differ, so a SHY one dances", x.place(1, 1) + x.place(2, 1), 1);
        due(23, "count(2)", x.count(2), 1);
        int leader = x.place(1, 0);
        due(23, "look(leader, 0)", x.look(leader, 0), 2);
        due(23, "look(leader, 1)", x.look(leader, 1), 5);
    }

    private static void put() {
        RopeDance x = plainFour();
        due(11, "put(0, 0)", x.put(0, 0), BAD);
        due(11, "put(3, 3)", x.put(3, 3), BAD);
        due(11, "put(-1, 0)", x.put(-1, 0), BAD);
        due(11, "put(0, -1)", x.put(0, -1), BAD);
        due(11, "put(4, 0)", x.put(4, 0), BAD);
        due(11, "put(0, 4)", x.put(0, 4), BAD);
        for (int far : FAR) {
            due(11, "put(" + far + ", 0)", x.put(far, 0), BAD);
            due(11, "put(0, " + far + ")", x.put(0, far), BAD);
        }
        due(11, "count(3)", x.count(3), 0);
        due(11, "put(0, 2)", x.put(0, 2), 2);
        stand(11, x, 2, 1, 0, 3);
        due(11, "dancer(0, 2)", x.dancer(0, 2), 1);
        due(11, "dancer(2, 2)", x.dancer(2, 2), 0);
        due(11, "place(0, 1)", x.place(0, 1), 0);
        due(11, "place(2, 1)", x.place(2, 1), 1);
        counts(11, x, 0, 0, 0, 1, 0, 0, 5);
        isWound(11, x, 0, 1);
        due(11, "put(1, 2), one ROPE", x.put(1, 2), 0);
        stand(11, x, 1, 2, 0, 3);
        due(11, "dancer(1, 2)", x.dancer(1, 2), 0);
        due(11, "dancer(2, 2)", x.dancer(2, 2), 0);
        due(11, "undo()", x.undo(), 1);
        due(11, "undo()", x.undo(), 0);
        stand(11, x, 0, 1, 2, 3);
        due(11, "dancer(0, 2)", x.dancer(0, 2), 0);
    }

    private static void undo() {
        RopeDance x = plainFour();
        due(12, "undo()", x.undo(), NO);
        danceAll(x, TWIST, TURN);
        x.put(0, 1);
        due(12, "undo()", x.undo(), 2);
        stand(12, x, 3, 0, 2, 1);
        due(12, "undo()", x.undo(), 1);
        isWound(12, x, 1, 1);
        stand(12, x, 0, 2, 1, 3);
        counts(12, x, 0, 1, 1, 1, 0, 0, 5);
        due(12, "undo()", x.undo(), 0);
        counts(12, x, 0, 0, 0, 0, 0, 0, 5);
        isWound(12, x, 0, 1);
        due(12, "undo()", x.undo(), NO);
        for (int i = 0; i < 11; i++) {
            x.dance(TWIST);
        }
        due(12, "count(3)", x.count(3), 8);
        for (int left = 7; left >= 0; left--) {
            due(12, "undo()", x.undo(), left);
            due(12, "wound(0)", x.wound(0), left + 3);
        }
        due(12, "undo()", x.undo(), NO);
        isWound(12, x, 3, 1);
        x.dance(BACK);
        due(12, "undo()", x.undo(), 0);
        isWound(12, x, 3, 1);
    }

    private static void isRow(int promise, RopeDance x, int[] args, int... figures) {
        for (int k = -1; k < 7; k++) {
            int want = k < 0 ? figures.length : k < figures.length ? figures[k] : NONE;
            int got = args.length == 0 ? x.free(k) : promise == 14 ? x.reach(args[0], args[1], k) : x.meet(args[0], args[1], k);
            due(promise, "figure " + k + " of the fewest", got, want);
        }
    }

    private static void free() {
        RopeDance x = plainFour();
        due(13, "free(-2)", x.free(-2), BAD);
        due(13, "free(7)", x.free(7), BAD);
        for (int far : FAR) {
            due(13, "free(" + far + ")", x.free(far), BAD);
        }
        int[] none = {};
        isRow(13, x, none);
        x.dance(TWIST);
        isRow(13, x, none, BACK);
        danceAll(x, TWIST, TWIST);
        isRow(13, x, none, BACK, BACK, BACK);
        x.dance(TURN);
        // -1 by 3: TURN to 3, then three BACKs.
        isRow(13, x, none, TURN, BACK, BACK, BACK);
        x.lay();
        x.dance(TURN);
        isRow(13, x, none, TURN);
        x.lay();
        danceAll(x, TWIST, TWIST, TURN);
        // -1 by 2: TWIST to 1 by 2, TURN to -2, TWIST, TWIST; or TURN to 2, BACK, BACK.
        isRow(13, x, none, TURN, BACK, BACK);
        x.lay();
        danceAll(x, TWIST, TWIST, TWIST, TWIST, TWIST, TWIST, TWIST);
        isRow(13, x, none, BACK, BACK, BACK, BACK, BACK, BACK, BACK);
        x.dance(TWIST);
        due(13, "free(-1) of 8", x.free(-1), NONE);
        due(13, "free(0) of 8", x.free(0), NONE);
        x = Dances.laid("d0,1;d1,1;d2,1;d3,1;");
        x.dance(TWIST);
        isRow(13, x, none, BACK);
        x = Dances.laid("d1,3;");
        x.dance(TWIST);
        isRow(13, x, none, BACK);
    }

    private static void reach() {
        RopeDance x = plainFour();
        int[][] bad = {{2, 2}, {0, 2}, {0, 0}, {-1, 0}, {2, 0}, {1, -1}, {100, 1}, {-100, 1}, {1, 100}, {6, 9}, {99, 99},
            {-4, 2}, {Integer.MIN_VALUE, 1}, {1, Integer.MIN_VALUE}, {Integer.MAX_VALUE, 1}, {1, Integer.MAX_VALUE}};
        for (int[] f : bad) {
            due(14, "reach(" + f[0] + ", " + f[1] + ", 0)", x.reach(f[0], f[1], 0), BAD);
        }
        due(14, "reach(1, 1, -2)", x.reach(1, 1, -2), BAD);
        due(14, "reach(1, 1, 7)", x.reach(1, 1, 7), BAD);
        for (int far : FAR) {
            due(14, "reach(1, 1, " + far + ")", x.reach(1, 1, far), BAD);
        }
        due(14, "reach(99, 98, -1)", x.reach(99, 98, -1), NONE);
        due(14, "reach(-99, 1, 6)", x.reach(-99, 1, 6), NONE);
        due(14, "reach(1, 99, -1)", x.reach(1, 99, -1), NONE);
        isRow(14, x, new int[] {0, 1});
        isRow(14, x, new int[] {1, 0}, TURN);
        isRow(14, x, new int[] {-2, 1}, BACK, BACK);
        isRow(14, x, new int[] {-1, 2}, TWIST, TWIST, TURN);
        isRow(14, x, new int[] {1, 2}, BACK, BACK, TURN);
        isRow(14, x, new int[] {2, 3}, TWIST, TWIST, TWIST, TURN, TWIST);
        isRow(14, x, new int[] {7, 1}, TWIST, TWIST, TWIST, TWIST, TWIST, TWIST, TWIST);
        due(14, "reach(8, 1, -1)", x.reach(8, 1, -1), NONE);
        x.dance(TURN);
        isRow(14, x, new int[] {1, 0});
        isRow(14, x, new int[] {1, 1}, TURN, TWIST);
    }

    private static void meet() {
        RopeDance x = plainFour();
        due(15, "meet(1, 1, 0)", x.meet(1, 1, 0), BAD);
        due(15, "meet(-1, 1, 0)", x.meet(-1, 1, 0), BAD);
        due(15, "meet(1, 4, 0)", x.meet(1, 4, 0), BAD);
        due(15, "meet(0, 1, -2)", x.meet(0, 1, -2), BAD);
        due(15, "meet(0, 1, 7)", x.meet(0, 1, 7), BAD);
        for (int far : FAR) {
            due(15, "meet(" + far + ", 1, 0)", x.meet(far, 1, 0), BAD);
            due(15, "meet(1, " + far + ", 0)", x.meet(1, far, 0), BAD);
            due(15, "meet(0, 1, " + far + ")", x.meet(0, 1, far), BAD);
        }
        for (int i = 0; i < 4; i++) {
            isRow(15, x, new int[] {i, (i + 1) % 4});
            isRow(15, x, new int[] {(i + 1) % 4, i});
        }
        isRow(15, x, new int[] {0, 2}, TWIST);
        isRow(15, x, new int[] {3, 1}, TWIST);
        x = Dances.laid("d1,3;");
        // An EAGER one changes places twice: all must go on first.
        isRow(15, x, new int[] {0, 2}, TURN, TWIST);
        x = Dances.laid("d0,3;d1,3;d2,3;d3,3;");
        due(15, "meet(0, 2, -1)", x.meet(0, 2, -1), NONE);
        due(15, "meet(1, 3, 6)", x.meet(1, 3, 6), NONE);
        x = Dances.laid("d1,2;");
        x.dance(REST);
        // A LAZY one does nothing in BEAT 1; TWIST is first of the figures all the same.
        isRow(15, x, new int[] {0, 2}, TWIST, TWIST);
    }

    private static void ways() {
        RopeDance x = plainFour();
        due(16, "ways(-1)", x.ways(-1), BAD);
        due(16, "ways(8)", x.ways(8), BAD);
        for (int far : FAR) {
            due(16, "ways(" + far + ")", x.ways(far), BAD);
        }
        due(16, "ways(0)", x.ways(0), 1);
        due(16, "ways(1)", x.ways(1), 0);
        // TWIST BACK, BACK TWIST, TURN TURN
        due(16, "ways(2)", x.ways(2), 3);
        // TURN, any of the two that leave ENDLESS as it is, TURN; TWIST TURN TWIST, BACK TURN BACK
        due(16, "ways(3)", x.ways(3), 4);
        x.dance(TWIST);
        due(16, "ways(0)", x.ways(0), 0);
        due(16, "ways(1)", x.ways(1), 1);
        for (int i = 0; i < 6; i++) {
            x.dance(TWIST);
        }
        due(16, "ways(6) of 7", x.ways(6), 0);
        // BACK seven times; from 7 by a TURN to -1 by 7 nothing else is near enough.
        due(16, "ways(7) of 7", x.ways(7), 1);
        x = Dances.laid("d0,3;d1,3;d2,3;d3,3;");
        x.dance(TWIST);
        due(16, "ways(7) of EAGER ones", x.ways(7) > 0 ? 1 : 0, 1);
        due(16, "ways(1) of EAGER ones", x.ways(1), 1);
        due(16, "ways(2) of EAGER ones", x.ways(2), 0);
    }

    private static void plain() {
        RopeDance x = plainFour();
        due(17, "plain()", x.plain(), 0);
        x.dance(TURN);
        due(17, "plain() of ENDLESS", x.plain(), 1);
        x.lay();
        x.dance(TWIST);
        // 1: TURN to -1, TWIST
        due(17, "plain() of 1", x.plain(), 2);
        x.lay();
        danceAll(x, BACK, BACK, BACK);
        due(17, "plain() of -3", x.plain(), 3);
        for (int i = 0; i < 57; i++) {
            x.dance(BACK);
        }
        due(17, "plain() of -60", x.plain(), 60);
        x.dance(BACK);
        due(17, "plain() of -61", x.plain(), NONE);
        isWound(17, x, -61, 1);
        x = Dances.laid("d0,1;d1,1;d2,1;d3,1;");
        x.dance(TWIST);
        due(17, "plain() of CROSS ones", x.plain(), NONE);
        x = Dances.laid("d0,3;d1,3;d2,3;d3,3;");
        danceAll(x, BACK, BACK);
        due(17, "plain() of EAGER ones, -4", x.plain(), 2);
        int[] above = Dances.fractionWith(10000, 1);
        x = Dances.laid("d0,1;");
        Dances.windTo(x, -above[0], above[1]);
        Dances.letLead(x, 0);
        due(17, "plain(), TOO TIGHT", x.plain(), NONE);
    }

    private static void comes() {
        RopeDance x = new RopeDance();
        due(18, "comes(-1)", x.comes(-1), BAD);
        due(18, "comes(2)", x.comes(2), BAD);
        for (int far : FAR) {
            due(18, "comes(" + far + ")", x.comes(far), BAD);
        }
        due(18, "comes(0)", x.comes(0), 5);
        // 1 CROSS and 2 change, EAGER 2 twice, TURN: 3 0 2 1; PLAIN 0 BACK: 3 2 0 1; TURN: 1 3 2 0.
        due(18, "comes(1)", x.comes(1), 1);
        counts(18, x, 5, 0, 0, 0, 0, 0, 0);
        isWound(18, x, 0, 1);
        x = plainFour();
        x.dance(TURN);
        due(18, "comes(0) of no ROW", x.comes(0), 0);
        due(18, "comes(1) of no ROW", x.comes(1), 3);
    }

    private static void behind() {
        RopeDance x = new RopeDance();
        due(19, "behind(-1, 0)", x.behind(-1, 0), WRONG);
        due(19, "behind(13, 0)", x.behind(13, 0), WRONG);
        due(19, "behind(0, -1)", x.behind(0, -1), WRONG);
        due(19, "behind(0, 2)", x.behind(0, 2), WRONG);
        for (int far : FAR) {
            due(19, "behind(" + far + ", 0)", x.behind(far, 0), WRONG);
            due(19, "behind(0, " + far + ")", x.behind(0, far), WRONG);
        }
        // -1 by CROSS, 1 by EAGER, TURN to -1, BACK by PLAIN to -2, TURN to 1 by 2.
        int[] u = {0, -1, 1, -1, -2, 1, 1, 1};
        int[] l = {1, 1, 1, 1, 1, 2, 2, 2};
        for (int n = 0; n < u.length; n++) {
            due(19, "behind(" + n + ", 0)", x.behind(n, 0), u[n]);
            due(19, "behind(" + n + ", 1)", x.behind(n, 1), l[n]);
        }
        due(19, "behind(12, 1)", x.behind(12, 1), 2);
        x.dance(REST);
        due(19, "behind(0, 0) from now on", x.behind(0, 0), 0);
        due(19, "count(1)", x.count(1), 1);
    }

    private static void see() {
        RopeDance x = new RopeDance();
        due(20, "see(-1, 0, 1)", x.see(-1, 0, 1), BAD);
        due(20, "see(13, 0, 1)", x.see(13, 0, 1), BAD);
        due(20, "see(0, 2, 2)", x.see(0, 2, 2), BAD);
        due(20, "see(0, 0, 0)", x.see(0, 0, 0), BAD);
        due(20, "see(0, 100, 1)", x.see(0, 100, 1), BAD);
        due(20, "see(0, 1, 100)", x.see(0, 1, 100), BAD);
        for (int far : FAR) {
            due(20, "see(" + far + ", 0, 1)", x.see(far, 0, 1), BAD);
            due(20, "see(0, " + far + ", 1)", x.see(0, far, 1), BAD);
            due(20, "see(0, 1, " + far + ")", x.see(0, 1, far), BAD);
        }
        due(20, "count(5)", x.count(5), 0);
        for (int n = 1; n <= 6; n++) {
            due(20, "see(12, -99, 98)", x.see(12, -99, 98), n);
        }
        due(20, "see(0, 0, 1)", x.see(0, 0, 1), FULL);
        due(20, "see(13, 0, 1) of full", x.see(13, 0, 1), BAD);
        due(20, "count(5)", x.count(5), 6);
    }

    private static void forget() {
        RopeDance x = new RopeDance();
        due(21, "forget()", x.forget(), 0);
        x.see(0, 1, 0);
        x.see(0, 1, 0);
        due(21, "kinds(0)", x.kinds(0), 0);
        due(21, "forget()", x.forget(), 2);
        due(21, "kinds(0)", x.kinds(0), 63);
        due(21, "count(5)", x.count(5), 0);
        due(21, "forget()", x.forget(), 0);
    }

    private static void kinds() {
        RopeDance x = Dances.laid("r0;r3;r0;");
        due(22, "kinds(-1)", x.kinds(-1), BAD);
        due(22, "kinds(4)", x.kinds(4), BAD);
        for (int far : FAR) {
            due(22, "kinds(" + far + ")", x.kinds(far), BAD);
        }
        due(22, "kinds(1)", x.kinds(1), 63);
        x.see(0, 0, 1);
        due(22, "kinds(1), of no figure", x.kinds(1), 63);
        x.see(1, 1, 1);
        // All but the CROSS (-1) and the EAGER one (2) make it 1.
        due(22, "kinds(1)", x.kinds(1), 1 + 4 + 16 + 32);
        due(22, "kinds(0)", x.kinds(0), 63);
        // Who leads then is dancer 2, for all but an EAGER 1; PLAIN makes it 2.
        x.see(12, 2, 1);
        due(22, "kinds(1)", x.kinds(1), 1 + 4 + 16 + 32);
        due(22, "kinds(2): all but CROSS and EAGER ones", x.kinds(2), 1 + 4 + 16 + 32);
        x.dance(REST);
        x.forget();
        x.see(1, 0, 1);
        due(22, "kinds(1), LAZY in BEAT 1", x.kinds(1), 4);
        due(22, "dancer(1, 0) stays", x.dancer(1, 0), 0);
        x.dance(REST);
        due(22, "kinds(1), LAZY not in BEAT 2", x.kinds(1), 0);
        x = Dances.laid("r0;");
        x.dance(BACK);
        x.dance(REST);
        x.put(1, 2);
        x.see(1, -2, 1);
        due(22, "kinds(1), STUBBORN behind a BACK", x.kinds(1), 2 + 32);
        x = Dances.laid("r0;p0,1;p1,0;p2,3;p3,2;");
        x.put(1, 2);
        x.put(1, 3);
        x.see(1, 0, 1);
        due(22, "kinds(0), SHY only by the same ROPE", x.kinds(0), 0);
        x = Dances.laid("r0;");
        x.dance(TURN);
        danceAll(x, TURN);
        x.see(1, 0, 1);
        due(22, "kinds(3), beside dancer 0", x.kinds(3), 0);
        x.dance(TURN);
        x.dance(TURN);
        due(22, "kinds(1), beside dancer 2", x.kinds(1), 0);
    }

    private static void look() {
        RopeDance x = Dances.laid("r3;r0;r0;");
        due(23, "look(-1, 0)", x.look(-1, 0), BAD);
        due(23, "look(4, 0)", x.look(4, 0), BAD);
        due(23, "look(0, -1)", x.look(0, -1), BAD);
        due(23, "look(0, 2)", x.look(0, 2), BAD);
        for (int far : FAR) {
            due(23, "look(" + far + ", 0)", x.look(far, 0), BAD);
            due(23, "look(0, " + far + ")", x.look(0, far), BAD);
        }
        // Behind r3 and one TWIST in BEAT 1: PLAIN 1, CROSS -1, LAZY 0, EAGER 2, SHY 1, STUBBORN 1: 3 are alike.
        // Behind one more (dancer 2 leads, or 1 again if LAZY or EAGER): 2, 0, 1, 4, 2, 2: 3 as well.
        due(23, "look(1, 0)", x.look(1, 0), 2);
        due(23, "look(1, 1)", x.look(1, 1), 3);
        // Who never leads is told apart by nothing.
        due(23, "look(0, 0)", x.look(0, 0), 1);
        due(23, "look(0, 1)", x.look(0, 1), 6);
        x.see(2, 1, 1);
        due(23, "look(1, 0), PLAIN SHY STUBBORN", x.look(1, 0), 1);
        due(23, "look(1, 1), PLAIN SHY STUBBORN", x.look(1, 1), 3);
        x.forget();
        x.see(2, 2, 1);
        due(23, "look(1, 0), EAGER alone", x.look(1, 0), NONE);
        due(23, "look(1, 1), EAGER alone", x.look(1, 1), NONE);
        x.see(0, 1, 0);
        due(23, "look(1, 0), none", x.look(1, 0), NONE);
        x = Dances.laid("d0,0;");
        due(23, "look(0, 0) of no ROW", x.look(0, 0), 1);
        due(23, "look(0, 1) of no ROW", x.look(0, 1), 6);
        x = Dances.laid("r3;r3;r3;r3;r3;r3;r3;r3;r3;r3;r3;r0;");
        due(23, "look(1, 0), the last one tells", x.look(1, 0), 12);
        due(23, "look(1, 1), the last one tells", x.look(1, 1), 3);
        x = Dances.laid("r0;");
        danceAll(x, BACK, REST);
        x.put(1, 2);
        x.see(1, -2, 1);
        due(23, "look(1, 0), CROSS and STUBBORN", x.look(1, 0), 1);
        due(23, "look(1, 1), CROSS and STUBBORN", x.look(1, 1), 2);
    }

    private static void danced() {
        RopeDance x = new RopeDance();
        due(24, "danced(-1)", x.danced(-1), BAD);
        due(24, "danced(8)", x.danced(8), BAD);
        for (int far : FAR) {
            due(24, "danced(" + far + ")", x.danced(far), BAD);
        }
        due(24, "danced(0)", x.danced(0), 1);
        due(24, "danced(1)", x.danced(1), 0);
        due(24, "danced(2)", x.danced(2), 3);
        x.dance(TWIST);
        // -1, by a CROSS one; PLAIN ones do it by BACK.
        due(24, "danced(0) of -1", x.danced(0), 0);
        due(24, "danced(1) of -1", x.danced(1), 1);
        due(24, "danced(2) of -1: TWIST TURN", x.danced(2), 1);
        x = Dances.laid("d1,3;");
        x.dance(TWIST);
        due(24, "danced(1) of 2", x.danced(1), 0);
        due(24, "danced(2) of 2", x.danced(2), 1);
        x = plainFour();
        x.dance(TURN);
        due(24, "danced(1) of ENDLESS", x.danced(1), 1);
        due(24, "danced(2) of ENDLESS", x.danced(2), 2);
        x.lay();
        danceAll(x, TWIST, TWIST, TWIST, TURN, TWIST);
        due(24, "danced(5) of 2 by 3", x.danced(5), 2);
        due(24, "danced(7) of 2 by 3", x.danced(7), 27);
        x = Dances.laid("d0,1;d1,1;d2,1;d3,1;");
        danceAll(x, BACK, BACK, BACK, TURN, BACK);
        due(24, "danced(7) of 2 by 3, by CROSS ones", x.danced(7), 27);
    }

    private static void duel() {
        RopeDance x = plainFour();
        due(25, "duel(-1)", x.duel(-1), BAD);
        due(25, "duel(6)", x.duel(6), BAD);
        for (int far : FAR) {
            due(25, "duel(" + far + ")", x.duel(far), BAD);
        }
        due(25, "duel(0)", x.duel(0), 1);
        danceAll(x, TWIST, TWIST, TWIST);
        due(25, "duel(0) of 3", x.duel(0), 3);
        due(25, "duel(1) of 3: TWIST", x.duel(1), 4);
        // TWIST is answered by BACK: 3; TURN (-1 by 3) by TURN or REST: 3; REST by BACK: 2.
        due(25, "duel(2) of 3", x.duel(2), 3);
        x.lay();
        danceAll(x, BACK, BACK, TURN);
        // 1 by 2: TWIST makes 3 by 2.
        due(25, "duel(1) of 1 by 2", x.duel(1), 3);
        x.lay();
        danceAll(x, TWIST, TWIST, TWIST, TURN, TWIST);
        due(25, "duel(5) of 2 by 3", x.duel(5), 5);
        x.lay();
        x.dance(TURN);
        due(25, "duel(1) of ENDLESS", x.duel(1), 1);
        x = Dances.laid("d1,1;");
        x.dance(TURN);
        danceAll(x, TURN, TURN, TURN, BACK);
        due(25, "wound(0)", x.wound(0), 1);
        due(25, "duel(1)", x.duel(1), 2);
        x = Dances.laid("d0,1;d1,1;d2,1;d3,1;");
        danceAll(x, TWIST, TWIST);
        // -2: a CROSS one does BACK for TWIST.
        due(25, "duel(1) of CROSS ones at -2", x.duel(1), 3);
        x.lay();
        danceAll(x, BACK, BACK);
        due(25, "duel(1) of CROSS ones at 2", x.duel(1), 2);
        due(25, "count(1)", x.count(1), 2);
    }

    private static void odds(RopeDance x, int n, int forgotten, int above, int below) {
        due(26, "odds(" + n + ", " + forgotten + ", 0)", x.odds(n, forgotten, 0), above);
        due(26, "odds(" + n + ", " + forgotten + ", 1)", x.odds(n, forgotten, 1), below);
    }

    private static void odds() {
        RopeDance x = Dances.laid("r0;r1;r0;");
        due(26, "odds(-1, 0, 0)", x.odds(-1, 0, 0), BAD);
        due(26, "odds(8, 0, 0)", x.odds(8, 0, 0), BAD);
        due(26, "odds(0, -1, 0)", x.odds(0, -1, 0), BAD);
        due(26, "odds(0, 11, 0)", x.odds(0, 11, 0), BAD);
        due(26, "odds(0, 0, -1)", x.odds(0, 0, -1), BAD);
        due(26, "odds(0, 0, 2)", x.odds(0, 0, 2), BAD);
        for (int far : FAR) {
            due(26, "odds(" + far + ", 0, 0)", x.odds(far, 0, 0), BAD);
            due(26, "odds(0, " + far + ", 0)", x.odds(0, far, 0), BAD);
            due(26, "odds(0, 0, " + far + ")", x.odds(0, 0, far), BAD);
        }
        odds(x, 0, 3, 1, 1);
        odds(x, 1, 0, 0, 1);
        odds(x, 1, 10, 1, 1);
        odds(x, 1, 3, 3, 10);
        odds(x, 1, 5, 1, 2);
        // Both or neither forgotten: 9 and 49 of 100.
        odds(x, 2, 3, 29, 50);
        // All forgotten (27), or one TWIST and the BACK danced (49 times 3, twice).
        odds(x, 3, 3, 321, 1000);
        odds(x, 7, 3, 321, 1000);
        x = Dances.laid("r0;r0;r0;r0;r0;r0;r0;r0;");
        odds(x, 7, 1, 1, 10000000);
        odds(x, 7, 10, 1, 1);
        odds(x, 7, 0, 0, 1);
        x = Dances.laid("d1,2;r3;r0;");
        // LAZY in BEAT 1, whether the REST is forgotten or not.
        odds(x, 2, 4, 1, 1);
        x.dance(REST);
        odds(x, 2, 4, 2, 5);
    }

    private static void evening() {
        RopeDance x = plainFour();
        due(27, "evening(-1, 1, 0)", x.evening(-1, 1, 0), BAD);
        due(27, "evening(10000, 1, 0)", x.evening(10000, 1, 0), BAD);
        due(27, "evening(0, 0, 0)", x.evening(0, 0, 0), BAD);
        due(27, "evening(0, 61, 0)", x.evening(0, 61, 0), BAD);
        due(27, "evening(0, 1, -1)", x.evening(0, 1, -1), BAD);
        due(27, "evening(0, 1, 3)", x.evening(0, 1, 3), BAD);
        for (int far : FAR) {
            due(27, "evening(" + far + ", 1, 0)", x.evening(far, 1, 0), BAD);
            due(27, "evening(0, " + far + ", 0)", x.evening(0, far, 0), BAD);
            due(27, "evening(0, 1, " + far + ")", x.evening(0, 1, far), BAD);
        }
        // z 0, k 0: DRAW 1: BACK, and 1 by 4 cut is 0: 0 and 2 of 0 2 1 3 are PUT: 1 2 0 3.
        due(27, "evening(0, 1, 0)", x.evening(0, 1, 0), 0);
        due(27, "evening(0, 1, 1)", x.evening(0, 1, 1), 0);
        due(27, "evening(0, 1, 2)", x.evening(0, 1, 2), 1);
        // k 1: 6152 times 6152 is 37847104, modulo 65521 it is 41487: REST; by 4, cut, 10371, modulo 8 3.
        due(27, "draw", 6152 * 6152 % 65521, 41487);
        due(27, "evening(0, 2, 0)", x.evening(0, 2, 0), 0);
        due(27, "evening(0, 2, 2)", x.evening(0, 2, 2), 1);
        // z 1: DRAW 22803 (REST, no PUT), then 54100 (TWIST, no PUT).
        due(27, "draw", 7920 * 7920 % 65521, 22803);
        due(27, "draw", 14071 * 14071 % 65521, 54100);
        due(27, "evening(1, 1, 0)", x.evening(1, 1, 0), 1);
        due(27, "evening(1, 2, 0)", x.evening(1, 2, 0), 1);
        due(27, "evening(1, 2, 2)", x.evening(1, 2, 2), 0);
        x.dance(TWIST);
        due(27, "evening(0, 1, 0) from 1", x.evening(0, 1, 0), 1);
        due(27, "evening(0, 2, 0) from 1", x.evening(0, 2, 0), 2);
        counts(27, x, 0, 1, 1, 1, 0, 0, 5);
        isWound(27, x, 1, 1);
        due(27, "evening(9999, 60, 0)", x.evening(9999, 60, 0) >= 0 ? 1 : 0, 1);
        int[] above = Dances.fractionWith(10000, 1);
        x = plainFour();
        Dances.windTo(x, -above[0], above[1]);
        due(27, "evening(0, 1, 1), BACK TOO TIGHT", x.evening(0, 1, 1), 1);
        due(27, "evening(0, 1, 2), PUT all the same", x.evening(0, 1, 2), x.place(2, 0));
    }

    private static void keepAndBack() {
        RopeDance x = new RopeDance();
        due(29, "back()", x.back(), NO);
        danceAll(x, TWIST, TURN);
        x.put(0, 3);
        x.see(0, 1, 1);
        due(28, "keep()", x.keep(), 1);
        int[] who = {x.place(0, 0), x.place(1, 0), x.place(2, 0), x.place(3, 0)};
        int rope = x.dancer(0, 2);
        due(28, "count(3) stays", x.count(3), 3);
        due(28, "count(4)", x.count(4), 1);
        danceAll(x, TWIST, TURN, BACK, REST);
        x.put(1, 2);
        due(28, "keep()", x.keep(), 2);
        due(28, "keep()", x.keep(), FULL);
        due(28, "count(4)", x.count(4), 2);
        danceAll(x, TURN);
        x.see(0, 1, 1);
        due(29, "back()", x.back(), 1);
        due(29, "count(1)", x.count(1), 6);
        due(29, "count(3)", x.count(3), 0);
        due(29, "undo()", x.undo(), NO);
        due(29, "count(5): what is SEEN stays", x.count(5), 2);
        due(29, "back()", x.back(), 0);
        counts(29, x, 5, 2, 2, 0, 0, 2, 0);
        isWound(29, x, 1, 1);
        stand(29, x, who);
        due(29, "dancer(0, 2)", x.dancer(0, 2), rope);
        due(29, "back()", x.back(), NO);
        x.dance(REST);
        due(29, "undo()", x.undo(), 0);
        due(28, "keep()", x.keep(), 1);
        x.dance(TURN);
        due(28, "undo()", x.undo(), 0);
        due(28, "count(4) stays", x.count(4), 1);
        due(28, "keep()", x.keep(), 2);
        Dances.tell(x, "r0;");
        x.lay();
        due(28, "keep() of what is LAID anew", x.keep(), 1);
    }

    private static void count() {
        RopeDance x = new RopeDance();
        due(30, "count(-1)", x.count(-1), BAD);
        due(30, "count(7)", x.count(7), BAD);
        for (int far : FAR) {
            due(30, "count(" + far + ")", x.count(far), BAD);
        }
        Dances.tell(x, "r0;r1;");
        x.dance(REST);
        x.dance(TURN);
        x.see(0, 0, 1);
        x.keep();
        counts(30, x, 5, 2, 0, 2, 1, 1, 6);
        x.dance(TWIST);
        due(30, "count(2)", x.count(2), 1);
        x.put(0, 1);
        due(30, "count(1): PUT takes no BEAT", x.count(1), 3);
        due(30, "count(3)", x.count(3), 4);
        x.lay();
        counts(30, x, 2, 0, 0, 0, 0, 0, 6);
    }
}
