/** THE TEXT, FAULT and LAID at their bounds, a test for each sentence. */
public final class TextBounds {
    private static final int BAD = Dances.BAD, NO = Dances.NO, FULL = Dances.FULL, NONE = Dances.NONE;
    private static final String FORTY_ITEMS = "d0,1;".repeat(39) + "d0,2;";

    public static void main(String[] args) {
        aNewObject();
        lettersOfAscii();
        lengthOfTheText();
        wiped();
        formOfItems();
        itemsCutOff();
        numbersOfItems();
        kindsOfDancers();
        placesOfDancers();
        twelveFigures();
        firstFault();
        noFault();
        whatIsLaid();
        whatIsRefused();
        howItBegins();
        whatLayLeaves();
        Asked.end();
    }

    private static void aNewObject() {
        Asked.under("at first d1,1;d2,3;d3,2;r0;r0;r2;r1;r2;");
        RopeDance x = new RopeDance();
        Dances.counts(x, 5, 0, 0, 0, 0, 0, 0);
        int[] kinds = {0, 1, 3, 2};
        int[] row = {0, 0, 2, 1, 2};
        for (int i = 0; i < 4; i++) {
            Asked.due("dancer(" + i + ", 0)", x.dancer(i, 0), kinds[i]);
        }
        for (int k = 0; k < 12; k++) {
            Asked.due("row(" + k + ")", x.row(k), k < 5 ? row[k] : NONE);
        }
        Dances.stand(x, 0, 1, 2, 3);
        Dances.ropes(x, 0, 0, 1, 1);
        Dances.wound(x, 0, 1);
        Asked.due("undo()", x.undo(), NO);
        Asked.due("back()", x.back(), NO);
        Asked.due("forget()", x.forget(), 0);
        Asked.due("wipe()", x.wipe(), 0);
        RopeDance y = Dances.laid(Dances.FIRST);
        y.wipe();
        Asked.so("as if it were laid from that TEXT", Dances.drained(new RopeDance()).equals(Dances.drained(y)));
    }

    private static void lettersOfAscii() {
        Asked.under("A letter (32 to 126, as in ASCII) comes behind THE TEXT: how long it is.");
        RopeDance x = new RopeDance();
        for (int letter = 32; letter <= 126; letter++) {
            Asked.due("write(" + letter + ")", x.write(letter), letter - 31);
        }
        int[] beyond = {31, 127, 0, -1, 128, 255, 32 + 256, 126 - 256, 65536 + 48, Dances.LEAST, Dances.GREATEST};
        for (int letter : beyond) {
            Asked.due("write(" + letter + ")", x.write(letter), BAD);
            Asked.due("count(6)", x.count(6), 95);
        }
    }

    private static void lengthOfTheText() {
        Asked.under("A TEXT is letters (200 at most)");
        RopeDance x = new RopeDance();
        for (int n = 1; n <= 200; n++) {
            Asked.due("write, the " + n + "th", x.write(FORTY_ITEMS.charAt(n - 1)), n);
        }
        Asked.due("the 201st", x.write('r'), FULL);
        Asked.due("the 201st once more", x.write(';'), FULL);
        Asked.due("count(6)", x.count(6), 200);
        Asked.due("fault() of 200 letters", x.fault(), NONE);
        Asked.due("lay() of 200 letters", x.lay(), 0);
        Asked.due("dancer(0, 0) by the last of 40 ITEMS", x.dancer(0, 0), 2);
        Asked.due("BAD goes before FULL", x.write(31), BAD);
        Asked.due("BAD goes before FULL", x.write(127), BAD);
        Asked.due("wipe()", x.wipe(), 200);
        Asked.due("write", x.write('r'), 1);
        x = Dances.told("d3,0;".repeat(39) + "r0;r0");
        Asked.due("fault() of the ITEM that the end cuts off", x.fault(), 198);
        Asked.due("write of what would mend it", x.write(';'), FULL);
        Asked.due("fault()", x.fault(), 198);
        Asked.due("lay()", x.lay(), NO);
    }

    private static void wiped() {
        Asked.under("THE TEXT is empty: how long it was.");
        RopeDance x = new RopeDance();
        Asked.due("wipe() of none", x.wipe(), 0);
        Dances.tell(x, "r9");
        Asked.due("fault()", x.fault(), 0);
        Asked.due("wipe()", x.wipe(), 2);
        Asked.due("fault() of the empty one", x.fault(), NONE);
        Asked.due("count(6)", x.count(6), 0);
        Asked.due("wipe() once more", x.wipe(), 0);
        Dances.tell(x, "r3;");
        Asked.due("lay(): nothing of the old one is left", x.lay(), 1);
        Asked.due("wipe()", x.wipe(), 3);
        Asked.due("lay() of the empty one", x.lay(), NO);
        Asked.due("row(0): what is laid stays", x.row(0), 3);
        Dances.tell(x, "d0,5;d1,5;");
        x.wipe();
        x.write('d');
        Asked.due("fault(): the letters that were wiped are no more", x.fault(), 0);
    }

    /** Each sign at each place of each ITEM: just those that are told are so. */
    private static void formOfItems() {
        Asked.under("each a letter, numbers (one figure each, but as told) parted by , and a ; behind the last one");
        String[] allowed = {"0123 , 012345 ;", "0123 , 0123 ;", "0123 ;"};
        String[] items = {"d0,0;", "p0,0;", "r0;"};
        for (int form = 0; form < 3; form++) {
            String[] signs = allowed[form].split(" ");
            for (int at = 1; at < items[form].length(); at++) {
                for (char sign = 32; sign <= 126; sign++) {
                    String text = "r3;" + items[form].substring(0, at) + sign + items[form].substring(at + 1);
                    Asked.due("fault() of " + text, Dances.told(text).fault(),
                            signs[at - 1].indexOf(sign) >= 0 ? NONE : 3);
                }
            }
        }
        for (char sign = 32; sign <= 126; sign++) {
            Asked.due("fault() of " + sign + "0,0;", Dances.told(sign + "0,0;").fault(),
                    sign == 'd' || sign == 'p' ? NONE : 0);
            Asked.due("fault() of " + sign + "0;", Dances.told(sign + "0;").fault(), sign == 'r' ? NONE : 0);
        }
        for (String bad : new String[] {"d0;", "p0;", "r0,0;", "d0,0,0;", "d00,0;", "d0,00;", "r00;", "d,0;", "d0,;", "r;",
            "d;", ";", ",", "d0,0;;", "r0;;", "r0;,", "d-1,0;", "r+0;", "d 0,0;", "dd0,0;", "d0,,0;"}) {
            int place = bad.startsWith("d0,0;") ? 5 : bad.startsWith("r0;") ? 3 : 0;
            Asked.due("fault() of " + bad, Dances.told(bad).fault(), place);
        }
    }

    private static void itemsCutOff() {
        Asked.under("and a ; behind the last one");
        for (String item : new String[] {"d3,5;", "p3,3;", "r3;"}) {
            for (int length = 1; length < item.length(); length++) {
                String cut = item.substring(0, length);
                RopeDance x = Dances.told(cut);
                Asked.due("fault() of " + cut, x.fault(), 0);
                Asked.due("lay() of " + cut, x.lay(), NO);
                x = Dances.told("p0,0;r1;" + cut);
                Asked.due("fault() of p0,0;r1;" + cut, x.fault(), 8);
                Dances.tell(x, item.substring(length));
                Asked.due("fault(), the rest written too", x.fault(), NONE);
            }
        }
    }

    private static void numbersOfItems() {
        Asked.under("FAULT: the place of the first letter of the first ITEM that is not so.");
        for (int i = 0; i < 10; i++) {
            for (int k = 0; k < 10; k++) {
                Asked.due("fault() of d" + i + "," + k, Dances.told("d" + i + "," + k + ";").fault(),
                        i <= 3 && k <= 5 ? NONE : 0);
                Asked.due("fault() of p" + i + "," + k, Dances.told("p" + i + "," + k + ";").fault(),
                        i <= 3 && k <= 3 ? NONE : 0);
            }
            Asked.due("fault() of r" + i, Dances.told("r" + i + ";").fault(), i <= 3 ? NONE : 0);
        }
    }

    private static void kindsOfDancers() {
        Asked.under("DANCER I is of KIND K (0 PLAIN, 1 CROSS, 2 LAZY, 3 EAGER, 4 SHY, 5 STUBBORN; 0 without;"
                + " the last one of each)");
        for (int i = 0; i < 4; i++) {
            for (int kind = 0; kind < 6; kind++) {
                RopeDance x = Dances.laid("d" + i + "," + kind + ";");
                for (int j = 0; j < 4; j++) {
                    Asked.due("dancer(" + j + ", 0)", x.dancer(j, 0), j == i ? kind : 0);
                }
            }
        }
        RopeDance x = Dances.laid("d0,5;d3,4;d0,0;d3,1;d3,3;d1,5;");
        int[] kinds = {0, 5, 0, 3};
        for (int i = 0; i < 4; i++) {
            Asked.due("dancer(" + i + ", 0), the last one", x.dancer(i, 0), kinds[i]);
        }
        x.wipe();
        Dances.tell(x, "r0;");
        x.lay();
        for (int i = 0; i < 4; i++) {
            Asked.due("dancer(" + i + ", 0) without", x.dancer(i, 0), 0);
        }
    }

    /** All 256 ways to tell four PLACES: LAID are the 24 of them with no two at one PLACE. */
    private static void placesOfDancers() {
        Asked.under("no two DANCERS at one PLACE (NO else;");
        int laid = 0;
        for (int code = 0; code < 256; code++) {
            int[] places = {code & 3, code >> 2 & 3, code >> 4 & 3, code >> 6};
            RopeDance x = new RopeDance();
            int bits = 0;
            for (int i = 0; i < 4; i++) {
                Dances.tell(x, "p" + i + "," + places[i] + ";");
                bits |= 1 << places[i];
            }
            Asked.due("fault()", x.fault(), NONE);
            int answer = x.lay();
            Asked.due("lay() of places " + code, answer, bits == 15 ? 0 : NO);
            for (int i = 0; i < 4; i++) {
                int place = bits == 15 ? places[i] : i;
                Asked.due("dancer(" + i + ", 1)", x.dancer(i, 1), place);
                Asked.due("dancer(" + i + ", 2)", x.dancer(i, 2), place / 2);
            }
            laid += answer == 0 ? 1 : 0;
        }
        Asked.due("how many can be laid", laid, 24);
        Asked.under("DANCER I stands at PLACE P at first (else at PLACE I; the last one of each)");
        Asked.due("one moved onto another's PLACE", Dances.told("p2,3;").lay(), NO);
        Asked.due("at its own PLACE", Dances.told("p2,2;").lay(), 0);
        Dances.stand(Dances.laid("p2,3;p3,2;"), 0, 1, 3, 2);
        Dances.stand(Dances.laid("p2,3;p3,3;p3,0;p0,2;"), 3, 1, 0, 2);
        Dances.stand(Dances.laid("p0,3;p0,0;"), 0, 1, 2, 3);
        Asked.due("the first one of each would do, the last does not", Dances.told("p0,0;p0,3;").lay(), NO);
        Dances.stand(Dances.laid("p0,1;p1,2;p2,3;p3,0;"), 3, 0, 1, 2);
    }

    private static void twelveFigures() {
        Asked.under("a FIGURE (0 to 3) more of THE ROW; 12 at most");
        for (int n = 1; n <= 13; n++) {
            RopeDance x = Dances.told("r1;".repeat(n));
            Asked.due("fault() of " + n + " FIGURES", x.fault(), n <= 12 ? NONE : 36);
            Asked.due("lay() of " + n + " FIGURES", x.lay(), n <= 12 ? n : NO);
            Asked.due("count(0)", x.count(0), n <= 12 ? n : 5);
        }
        int[] row = {0, 1, 2, 3, 3, 2, 1, 0, 2, 0, 2, 1};
        RopeDance x = Dances.laid(Dances.TWELVE);
        for (int k = 0; k < 12; k++) {
            Asked.due("row(" + k + ")", x.row(k), row[k]);
        }
        Asked.due("fault() of 12 and others behind", Dances.told(Dances.TWELVE + "d0,1;p3,3;").fault(), NONE);
        Asked.due("lay() of 12 and others behind", Dances.told(Dances.TWELVE + "d0,1;p3,3;").lay(), 12);
        Asked.due("fault() of a 13th behind others", Dances.told(Dances.TWELVE + "d0,1;p3,3;r0;").fault(), 46);
        Asked.due("fault() of a 13th ahead of others", Dances.told(Dances.TWELVE + "r3;d0,9;").fault(), 36);
        Asked.due("fault() of a 13th that is cut off", Dances.told(Dances.TWELVE + "r").fault(), 36);
        Asked.due("fault() of a 12th that is cut off", Dances.told("r0;".repeat(11) + "r1").fault(), 33);
        Asked.due("fault() ahead of a 13th", Dances.told("d0,6;" + "r0;".repeat(13)).fault(), 0);
        Asked.due("fault() of 66 FIGURES", Dances.told("r0;".repeat(66)).fault(), 36);
        x = Dances.laid(Dances.TWELVE);
        x.lay();
        Asked.due("count(0): a second LAY does not add to THE ROW", x.count(0), 12);
    }

    private static void firstFault() {
        Asked.under("the first letter of the first ITEM");
        for (int before = 0; before <= 39; before++) {
            RopeDance x = Dances.told("p1,1;".repeat(before) + "x0,0;");
            Asked.due("fault() behind " + before + " ITEMS", x.fault(), 5 * before);
        }
        Asked.due("two of them", Dances.told("r0;r4;d9,9;").fault(), 3);
        Asked.due("the last letter", Dances.told("d1,1;r0;x").fault(), 8);
        Asked.due("a letter ahead", Dances.told(" r0;").fault(), 0);
    }

    private static void noFault() {
        Asked.under("FAULT. NONE.");
        for (String text : new String[] {"", "r0;", "d0,0;", "p0,0;", "p0,1;", "p0,1;p1,1;", Dances.TWELVE, FORTY_ITEMS}) {
            RopeDance x = Dances.told(text);
            Asked.due("fault() of " + text, x.fault(), NONE);
            Asked.due("fault() once more", x.fault(), NONE);
            Asked.due("count(6)", x.count(6), text.length());
        }
    }

    private static void whatIsLaid() {
        Asked.under("LAID: how many FIGURES THE ROW has; nothing SEEN, UNDONE, KEPT; THE TEXT stays. NO.");
        RopeDance x = Dances.laid("r0;r2;");
        Dances.dance(x, Dances.TWIST, Dances.TURN, Dances.TWIST);
        x.put(0, 1);
        x.see(1, 1, 1);
        x.keep();
        x.keep();
        Dances.counts(x, 2, 3, 1, 4, 2, 1, 6);
        Asked.due("lay()", x.lay(), 2);
        Dances.counts(x, 2, 0, 0, 0, 0, 0, 6);
        Asked.due("undo()", x.undo(), NO);
        Asked.due("back()", x.back(), NO);
        Asked.due("forget()", x.forget(), 0);
        Asked.due("kinds(1)", x.kinds(1), 63);
        Asked.due("keep(), two can be again", x.keep() + 10 * x.keep(), 21);
        Asked.due("lay() of the same TEXT once more", x.lay(), 2);
        Asked.due("wipe()", x.wipe(), 6);
        Asked.due("lay() without a ROW", Dances.told("d0,0;").lay(), 0);
    }

    private static void whatIsRefused() {
        Asked.under("LAID is a TEXT without FAULT, not empty, no two DANCERS at one PLACE (NO else;");
        for (String text : new String[] {"", "r", "r4;", "d2,2;r0;x", "p0,1;", "p3,0;r0;d0,5;", "r0;".repeat(13)}) {
            RopeDance x = inMidst(text);
            Asked.due("lay() of " + text, x.lay(), NO);
            Asked.so("lay() of " + text + " changes nothing",
                    Dances.drained(x).equals(Dances.drained(inMidst(text))));
        }
    }

    private static RopeDance inMidst(String text) {
        RopeDance x = Dances.laid("d0,3;d2,5;r0;r1;r2;p0,1;p1,0;");
        Dances.dance(x, 0, 2, 1);
        x.keep();
        x.put(0, 3);
        x.dance(0);
        x.see(0, 0, 1);
        x.wipe();
        Dances.tell(x, text);
        return x;
    }

    private static void howItBegins() {
        Asked.under("At first those at PLACES 0 and 1 hold the ends of ROPE 0, the other two those of ROPE 1; WOUND is 0,"
                + " neither TWIST nor BACK was done yet, BEAT 0 is next.");
        RopeDance x = Dances.laid("d0,5;d3,2;p0,3;p3,1;p1,2;p2,0;");
        for (int round = 0; round < 2; round++) {
            Dances.stand(x, 2, 3, 1, 0);
            Dances.ropes(x, 0, 0, 1, 1);
            Dances.wound(x, 0, 1);
            Asked.due("count(1)", x.count(1), 0);
            Asked.due("count(2)", x.count(2), 0);
            Asked.due("a LAZY one in BEAT 0", x.dance(Dances.BACK), 9);
            Dances.dance(x, 2, 0, 2);
            x.put(0, 2);
            x.lay();
        }
        x = Dances.laid("d1,5;");
        x.dance(Dances.TWIST);
        x.lay();
        Asked.due("a STUBBORN one, nothing being done since it was laid", x.dance(Dances.BACK), 9);
    }

    private static void whatLayLeaves() {
        Asked.under("THE TEXT stays");
        RopeDance x = Dances.laid("r0;");
        Asked.due("count(6)", x.count(6), 3);
        Asked.due("write goes on behind it", x.write('r'), 4);
        Asked.due("fault()", x.fault(), 3);
        Asked.due("lay()", x.lay(), NO);
        Asked.due("count(0)", x.count(0), 1);
        Dances.tell(x, "2;");
        Asked.due("lay()", x.lay(), 2);
        Asked.due("row(1)", x.row(1), 2);
    }
}
