/** The text: promises 2 to 9. */
public final class TextTest {
    private static final String TABLE = "seats 4;pot 1 2 3 4;bone 3;king 2;friend 0 2;spoons 2 5;need 1 3;turn 1;flip;";
    private static final Due due = new Due();

    public static void main(String[] args) {
        feedIsHighestFirst();
        tapeIsFull();
        endCuts();
        textsAreTaken();
        faultsAreFound();
        faultChangesNothing();
        textReplacesAll();
        ruleTells();
        potAndOneTell();
        stirsMove();
        due.finish();
    }

    /** Promise 2. */
    private static void feedIsHighestFirst() {
        LadleKings x = new LadleKings();
        due.is("feed", x.feed(0x666c69703b202020L), 8);
        due.is("flip; is read", x.text(), 1);
        due.is("one STIR", x.rule(1), 1);
        due.is("feed of high bits", x.feed(-1L), 8);
        due.is("feed", x.feed(0L), 16);
        due.is("bytes", x.count(2), 16);
        due.is("byte 255 is no TOKEN", x.text(), -10);
        due.is("fault", x.fault(), 1);
    }

    private static void tapeIsFull() {
        LadleKings x = new LadleKings();
        for (int i = 1; i <= 40; i++) {
            due.is("feed " + i, x.feed(0x2020202020202020L), 8 * i);
        }
        due.is("feed beyond 320", x.feed(0x3b3b3b3b3b3b3b3bL), -3);
        due.is("bytes", x.count(2), 320);
        due.is("end(313)", x.end(313), 320);
        due.is("feed to 321", x.feed(0L), -3);
        due.is("end(312)", x.end(312), 313);
        due.is("feed to 320", x.feed(0x20202020666c6970L), 320);
        due.is("the end at 320", x.text(), -330);
        due.is("fault", x.fault(), 2);
    }

    /** Promise 3. */
    private static void endCuts() {
        LadleKings x = new LadleKings();
        due.is("end(0)", x.end(0), 0);
        due.is("end(1)", x.end(1), -1);
        x.feed(0x666c69703b666c69L);
        due.is("end(-1)", x.end(-1), -1);
        due.is("end(9)", x.end(9), -1);
        due.is("end(MIN)", x.end(Integer.MIN_VALUE), -1);
        due.is("end(MAX)", x.end(Integer.MAX_VALUE), -1);
        due.is("refused: nothing is cut", x.count(2), 8);
        due.is("end(8)", x.end(8), 8);
        due.is("end(5)", x.end(5), 8);
        due.is("end(5)", x.end(5), 5);
        due.is("flip; is left", x.text(), 1);
        due.is("fault", x.fault(), 0);
    }

    private static void taken(String text, int lines) {
        LadleKings x = new LadleKings();
        due.is("text '" + text + "'", Due.tell(x, text), lines);
        due.is("fault of '" + text + "'", x.fault(), 0);
        due.is("the tape is empty", x.count(2), 0);
    }

    /** Promise 4. */
    private static void textsAreTaken() {
        taken("", 0);
        taken("   ", 0);
        taken("  flip  ;  ", 1);
        taken("seats4;pot1 2 3 4;", 2);
        taken("seats 04 ; bone 00;king 03;", 3);
        taken("flip;flip;flip;flip;flip;", 5);
        taken("pot 1;", 1);
        taken("pot 1 2 3 4 5 6 7;seats 7;", 2);
        taken("bone 6;king 6;friend 6 5;spoons 6 9;need 6 9;swap 5 6;lift 6;seats 7;", 8);
        taken("seats 2;turn 6;", 2);
        taken("spoons 0 2;spoons 0 3;need 0 1;need 0 1;", 4);
        taken("friend 0 1;friend 1 0;friend 0 2;", 3);
        taken("swap 0 1;swap 1 0;", 2);
        taken("bone 0;king 0;pot 0 0;friend 0 1;spoons 0 1;need 0 0;swap 1 0;", 7);
        taken("seats 2;king 1;lift 1;swap 0 1;friend 1 0;", 5);
    }

    private static void faulty(String text, int place, int fault) {
        LadleKings x = new LadleKings();
        due.is("text '" + text + "'", Due.tell(x, text), -10 - place);
        due.is("fault of '" + text + "'", x.fault(), fault);
        due.is("the tape is empty", x.count(2), 0);
    }

    /** Promises 4 and 5. */
    private static void faultsAreFound() {
        faulty(".", 0, 1);
        faulty("flip.;", 4, 1);
        faulty("Flip;", 0, 1);
        faulty("flip;\n", 5, 1);
        faulty("flip\t;", 4, 1);
        faulty("flip;-", 5, 1);
        faulty("bone -1;", 5, 1);
        faulty("bone 001;", 5, 1);
        faulty("flip 100;", 5, 1);
        faulty("100;", 0, 1);
        faulty("pot 0 0 0 0 0 0 0 123;", 18, 1);
        faulty(";", 0, 2);
        faulty("flip;;", 5, 2);
        faulty("7;", 0, 2);
        faulty("flips;", 0, 2);
        faulty("xlip;", 0, 2);
        faulty("flix;", 0, 2);
        faulty("flipz;", 0, 2);
        faulty("zflip;", 0, 2);
        faulty("fli;", 0, 2);
        faulty("flipflip;", 0, 2);
        faulty("flip flip;", 5, 2);
        faulty("flip", 4, 2);
        faulty("flip   ", 7, 2);
        faulty("seats", 5, 2);
        faulty("seats;", 5, 2);
        faulty("seats 4 4;", 8, 2);
        faulty("seats four;", 6, 2);
        faulty("pot;", 3, 2);
        faulty("pot 1 2", 7, 2);
        faulty("pot 1 flip;", 6, 2);
        faulty("pot 0 0 0 0 0 0 0 flip;", 18, 2);
        faulty("bone 0 0;", 7, 2);
        faulty("king 0 0;", 7, 2);
        faulty("spoons 0 1 0;", 11, 2);
        faulty("need 0 1 0;", 9, 2);
        faulty("turn 1 0;", 7, 2);
        faulty("flip 0;", 5, 2);
        faulty("swap 0 1 0;", 9, 2);
        faulty("lift 1 0;", 7, 2);
        faulty("friend 0;", 8, 2);
        faulty("friend 0 1 2;", 11, 2);
        faulty("spoons 0;", 8, 2);
        faulty("need 0;", 6, 2);
        faulty("turn;", 4, 2);
        faulty("swap 0;", 6, 2);
        faulty("lift;", 4, 2);
        faulty("seats 1;", 6, 3);
        faulty("seats 8;", 6, 3);
        faulty("seats 10;", 6, 3);
        faulty("pot 10;", 4, 3);
        faulty("pot 0 10;", 6, 3);
        faulty("pot 0 0 0 0 0 0 0 10;", 18, 3);
        faulty("bone 7;", 5, 3);
        faulty("king 7;", 5, 3);
        faulty("friend 7 0;", 7, 3);
        faulty("friend 0 7;", 9, 3);
        faulty("spoons 7 1;", 7, 3);
        faulty("spoons 0 0;", 9, 3);
        faulty("spoons 0 10;", 9, 3);
        faulty("need 7 1;", 5, 3);
        faulty("need 0 10;", 7, 3);
        faulty("turn 0;", 5, 3);
        faulty("turn 7;", 5, 3);
        faulty("swap 7 0;", 5, 3);
        faulty("swap 0 7;", 7, 3);
        faulty("lift 0;", 5, 3);
        faulty("lift 7;", 5, 3);
        faulty("seats 4;seats 4;", 8, 4);
        faulty("pot 1;pot,", 6, 4);
        faulty("bone 1;bone 1;", 7, 4);
        faulty("king 1; king 9;", 8, 4);
        faulty("friend 3 3;", 9, 4);
        faulty("friend 3 3,", 9, 4);
        faulty("friend 3 1;friend 1 3;friend 3 1;", 31, 4);
        faulty("swap 2 2;", 7, 4);
        faulty("pot 0 0 0 0 0 0 0 0;", 18, 5);
        faulty("flip;turn 1;swap 0 1;lift 1;flip;lift,", 33, 5);
        faulty("flip;flip;flip;flip;flip;turn 9;", 25, 5);
        faulty("flip;flip;flip;flip;flip;swap 0 0;", 25, 5);
        faulty("flip;flip;flip;flip;flip;flip", 25, 5);
        faulty("pot 1 2 3 4 5;", 14, 6);
        faulty("seats 2;pot 1 2 3;", 18, 6);
        faulty("bone 4;", 7, 6);
        faulty("king 4; ", 8, 6);
        faulty("friend 4 0;", 11, 6);
        faulty("friend 0 4;", 11, 6);
        faulty("spoons 4 1;", 11, 6);
        faulty("need 4 1;", 9, 6);
        faulty("swap 4 0;", 9, 6);
        faulty("swap 0 4;", 9, 6);
        faulty("lift 4;", 7, 6);
        faulty("lift 3;seats 3;", 15, 6);
        faulty("king 4;seats 9;", 13, 3);
    }

    private static void faultChangesNothing() {
        LadleKings x = due.told(TABLE);
        x.see(1);
        x.keep(0);
        x.sheet(0, 0, 3);
        x.day(0);
        String before = Due.stateOf(x);
        due.is("a FAULT", Due.tell(x, "seats 2;pot 9 9;king 1;flip;bone"), -42);
        due.is("fault", x.fault(), 2);
        due.isTrue("what was told stays", before.equals(Due.stateOf(x)));
        due.is("the IMAGE stays", x.back(0), 2);
        due.is("a text that is taken", Due.tell(x, "flip;"), 1);
        due.is("fault of the latest", x.fault(), 0);
    }

    private static void textReplacesAll() {
        LadleKings x = due.told(TABLE);
        x.see(1);
        x.keep(0);
        x.keep(1);
        x.sheet(0, 0, 3);
        x.sheet(1, 1, 2);
        x.day(0);
        due.is("read", x.read(0, 1, 0, 1), 0);
        due.is("torn", x.torn(), 3);
        due.is("an empty text", Due.tell(x, ""), 0);
        due.is("torn stays", x.torn(), 3);
        due.is("SHEET 0 stays", x.count(3), 3);
        due.is("SHEET 1 stays", x.lay(1, 1, 1), 1);
        due.is("IMAGE 0 is gone", x.back(0), -2);
        due.is("IMAGE 1 is gone", x.back(1), -2);
        due.is("IMAGES", x.count(1), 0);
        due.is("SEEN", x.count(0), 0);
        due.is("SEATS", x.rule(0), 4);
        due.is("seven SEATS", Due.tell(x, "seats 7;king 6;spoons 6 3;need 6 2;pot 1 1 1 1 1 1 1;friend 6 0;flip;"), 7);
        x.see(6);
        x.day(0);
        due.is("three SEATS", Due.tell(x, "seats 3;king 2;"), 2);
        due.is("no STIRS", x.rule(1), 0);
        due.is("four SEATS, none told", Due.tell(x, ""), 0);
        due.is("SEATS", x.rule(0), 4);
        due.is("SEEN", x.count(0), 0);
        for (int what = 1; what <= 4; what++) {
            due.is("rule " + what, x.rule(what), 0);
        }
        for (int p = 0; p < 4; p++) {
            due.is("PIECES", x.pot(p), 0);
            due.is("FRIENDS", x.one(p, 0), 0);
            due.is("SPOONS", x.one(p, 1), 1);
            due.is("NEED", x.one(p, 2), 0);
            due.is("EATEN", x.one(p, 3), 0);
        }
    }

    /** Promise 6. */
    private static void ruleTells() {
        LadleKings x = due.told(TABLE);
        int[] want = {4, 2, 2, 0, 3};
        for (int what = 0; what < 5; what++) {
            due.is("rule " + what, x.rule(what), want[what]);
        }
        x.day(0);
        due.is("DAYS", x.rule(3), 1);
        due.is("the BONE", x.rule(4), 0);
        due.is("THE KING", x.rule(2), 3);
        due.is("rule -1", x.rule(-1), -1);
        due.is("rule 5", x.rule(5), -1);
    }

    /** Promises 7 and 8. */
    private static void potAndOneTell() {
        LadleKings x = due.told("seats 3;pot 9 0 5;friend 2 0;friend 2 1;spoons 1 9;need 2 9;flip;");
        int[] pot = {9, 0, 5};
        int[][] ones = {{0, 1, 0, 0}, {0, 9, 0, 0}, {3, 1, 9, 0}};
        for (int p = 0; p < 3; p++) {
            due.is("pot " + p, x.pot(p), pot[p]);
            for (int what = 0; what < 4; what++) {
                due.is("one " + p + " " + what, x.one(p, what), ones[p][what]);
            }
        }
        x.day(0);
        due.is("pot behind flip", x.pot(0), 5);
        due.is("EATEN of 0", x.one(0, 3), 9);
        due.is("EATEN of 1", x.one(1, 3), 5);
        due.is("EATEN of 2", x.one(2, 3), 0);
        int[] wrong = {-1, 3, Integer.MIN_VALUE, Integer.MAX_VALUE};
        for (int p : wrong) {
            due.is("pot " + p, x.pot(p), -1);
            due.is("one " + p, x.one(p, 0), -1);
        }
        due.is("one what -1", x.one(0, -1), -1);
        due.is("one what 4", x.one(0, 4), -1);
    }

    private static void moves(String text, int... want) {
        LadleKings x = due.told(text);
        for (int i = 0; i < want.length; i++) {
            due.is(text + " stir(0, " + i + ")", x.stir(0, i), want[i]);
        }
    }

    /** Promise 9. */
    private static void stirsMove() {
        moves("seats 5;turn 2;", 2, 3, 4, 0, 1, -1);
        moves("turn 2;seats 5;", 2, 3, 4, 0, 1, -1);
        moves("seats 2;turn 5;", 1, 0, -1);
        moves("seats 2;turn 6;", 0, 1, -1);
        moves("seats 3;turn 5;", 2, 0, 1, -1);
        moves("seats 7;turn 6;", 6, 0, 1, 2, 3, 4, 5, -1);
        moves("seats 5;flip;", 4, 3, 2, 1, 0, -1);
        moves("seats 5;swap 3 1;", 0, 3, 2, 1, 4, -1);
        moves("seats 5;lift 3;", 1, 2, 3, 0, 4, -1);
        moves("seats 2;lift 1;", 1, 0, -1);
        LadleKings x = due.told("flip;turn 1;");
        due.is("STIRS have an order", x.stir(1, 0), 1);
        due.is("stir -1", x.stir(-1, 0), -1);
        due.is("stir 2", x.stir(2, 0), -1);
        due.is("place -1", x.stir(0, -1), -1);
        due.is("stir MIN", x.stir(Integer.MIN_VALUE, 0), -1);
        due.is("stir MAX", x.stir(Integer.MAX_VALUE, Integer.MAX_VALUE), -1);
    }
}
