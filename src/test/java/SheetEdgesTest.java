/** Promises 31 to 37: each number at its bounds and one beyond them, what an IMAGE holds, what the machine finds. */
public final class SheetEdgesTest {
    private static final int BYTES = 0, SHORTS = 1, INTS = 2;
    /** Five STIRS, none of which moves the BONE to where another does: so a STIR is known by what it did. */
    private static final String FIVE = "seats 7;pot 0 1 2 3 4 5 6;turn 1;turn 2;turn 3;turn 4;turn 5;";
    private static final Due due = new Due();

    public static void main(String[] args) {
        keepEdges();
        backEdges();
        imageHolds();
        imageHoldsNot();
        sheetEdges();
        sheetsAreNew();
        layEdges();
        lowestBits();
        readEdges();
        readOfNone();
        readUpToTheEnd();
        readFaults();
        readRefused();
        readTheLastDay();
        firstMet();
        tornEdges();
        countEdges();
        due.finish();
    }

    /** Promise 31. */
    private static void keepEdges() {
        due.bounds("keep", k -> new LadleKings().keep(k), 0, 0, 1, 0, -1);
        due.bounds("keep again", k -> {
            LadleKings x = new LadleKings();
            x.keep(0);
            x.keep(1);
            return x.keep(k);
        }, 0, 1, 1, 1, -1);
        LadleKings x = new LadleKings();
        x.keep(0);
        due.is("the other one was not", x.keep(1), 0);
        Due.tell(x, "king 7;");
        due.is("a text with a FAULT leaves it", x.keep(0), 1);
        Due.tell(x, "king 1;");
        due.is("a text that is taken does not", x.keep(0), 0);
        due.is("nor the other", x.keep(1), 0);
    }

    /** Promise 32. */
    private static void backEdges() {
        due.bounds("back, there is none", k -> new LadleKings().back(k), 0, -2, 1, -2, -1);
        due.bounds("back", k -> {
            LadleKings x = new LadleKings();
            x.crown(2);
            x.keep(0);
            x.crown(3);
            x.keep(1);
            x.crown(1);
            return x.back(k);
        }, 0, 2, 1, 3, -1);
        LadleKings x = new LadleKings();
        x.keep(1);
        due.is("0 is none", x.back(0), -2);
        due.is("1 is one", x.back(1), 0);
        due.is("and stays one", x.back(1), 0);
    }

    /** Each of what an IMAGE is, changed by itself, comes back. */
    private static void imageHolds() {
        LadleKings x = due.told("seats 3;pot 1 2 3;king 1;friend 0 1;spoons 2 4;need 1 5;turn 1;flip;");
        x.day(0);
        // By its two STIRS another one is KING next, so that HISTORIES tell which of them was SEEN.
        x.see(x.next(x.rule(2), 0));
        int other = x.next(x.rule(2), 1);
        x.keep(0);
        String kept = Due.stateOf(x);
        x.fill(2, 9);
        comesBack(x, kept, "PIECES");
        x.crown((x.rule(2) + 1) % 3);
        comesBack(x, kept, "THE KING");
        x.befriend(0, 1, false);
        x.befriend(2, 0, true);
        comesBack(x, kept, "FRIENDS");
        x.spoon(2, 5);
        comesBack(x, kept, "SPOONS");
        x.day(1);
        comesBack(x, kept, "EATEN, DAYS, THE POT with its BONE");
        x.see(0);
        comesBack(x, kept, "SEEN, one more");
        x.forget(0);
        x.see(other);
        comesBack(x, kept, "SEEN, another one");
        x.forget(0);
        comesBack(x, kept, "SEEN, one less");
        x.keep(1);
        x.crown((x.rule(2) + 1) % 3);
        x.keep(0);
        x.back(1);
        due.isTrue("IMAGE 1 is not changed by keep(0)", kept.equals(Due.stateOf(x).replaceFirst("^3 1 2 2", "3 1 2 1")));
    }

    private static void comesBack(LadleKings x, String kept, String what) {
        due.isTrue(what + " changed", !kept.equals(Due.stateOf(x)));
        x.back(0);
        due.isTrue(what + " came back", kept.equals(Due.stateOf(x)));
    }

    /** THE TAPE, SHEETS, faults are as they are. */
    private static void imageHoldsNot() {
        LadleKings x = due.told("flip;");
        x.keep(0);
        Due.tell(x, ".");
        x.read(0, BYTES, 0, 1);
        x.sheet(0, BYTES, 4);
        Due.feedAll(x, "flip;");
        x.keep(1);
        due.is("back", x.back(0), 0);
        due.is("fault", x.fault(), 1);
        due.is("torn", x.torn(), 1);
        due.is("CELLS", x.count(3), 4);
        due.is("bytes", x.count(2), 5);
        due.is("IMAGES", x.count(1), 2);
    }

    /** Promise 33: SHEETS 0 to 3, lanes 0 to 2, 0 to 40 CELLS; below 0: SIZE. */
    private static void sheetEdges() {
        due.bounds("sheet k", k -> new LadleKings().sheet(k, BYTES, 1), 0, 1, 3, 1, -1);
        due.bounds("sheet lane", lane -> new LadleKings().sheet(0, lane, 1), 0, 1, 2, 1, -1);
        for (int k = 0; k < 4; k++) {
            for (int lane = 0; lane < 3; lane++) {
                LadleKings x = new LadleKings();
                due.is("no CELLS", x.sheet(k, lane, 0), 1);
                due.is("40 CELLS", x.sheet(k, lane, 40), 1);
                due.is("41 CELLS", x.sheet(k, lane, 41), -1);
                due.is("too many", x.sheet(k, lane, Integer.MAX_VALUE), -1);
                due.is("below 0", x.sheet(k, lane, -1), -14);
                due.is("far below 0", x.sheet(k, lane, Integer.MIN_VALUE), -14);
                due.is("it is as it was: the last CELL", x.lay(k, 39, 0), 1);
                due.is("one behind it", x.lay(k, 40, 0), -12);
            }
        }
        due.bounds("BAD ahead of SIZE: k", k -> new LadleKings().sheet(k, BYTES, -1), 0, -14, 3, -14, -1);
        due.bounds("BAD ahead of SIZE: lane", lane -> new LadleKings().sheet(0, lane, -1), 0, -14, 2, -14, -1);
        LadleKings x = new LadleKings();
        x.sheet(0, BYTES, -1);
        due.is("SIZE leaves nothing nothing", x.count(3), -4);
        x.sheet(0, BYTES, 41);
        due.is("BAD leaves nothing nothing", x.count(3), -4);
        x.sheet(0, BYTES, 0);
        due.is("no CELLS are not nothing", x.count(3), 0);
    }

    private static void sheetsAreNew() {
        LadleKings x = due.told(FIVE);
        x.sheet(1, INTS, 40);
        for (int i = 0; i < 40; i++) {
            x.lay(1, i, 4);
        }
        due.is("fewer", x.sheet(1, SHORTS, 2), 1);
        due.is("more again", x.sheet(1, BYTES, 40), 1);
        for (int i = 0; i < 40; i++) {
            due.is("CELL " + i + " is 0", stirRead(x, 1, BYTES, i), 0);
        }
        LadleKings y = due.told(FIVE);
        for (int k = 0; k < 4; k++) {
            y.sheet(k, BYTES, 1);
            y.lay(k, 0, k + 1);
        }
        for (int k = 0; k < 4; k++) {
            due.is("each SHEET has CELLS of its own", stirRead(y, k, BYTES, 0), k + 1);
        }
    }

    /** Which of FIVE's STIRS CELL i tells; below 0: what read() answers. */
    private static int stirRead(LadleKings x, int k, int lane, int i) {
        int bone = x.rule(4);
        int went = x.read(k, lane, i, 1);
        return went == 1 ? Math.floorMod(x.rule(4) - bone, 7) - 1 : went == 0 ? -100 - x.torn() : went;
    }

    /** Promise 34. */
    private static void layEdges() {
        due.bounds("lay k, nothing", k -> new LadleKings().lay(k, 0, 0), 0, -11, 3, -11, -1);
        for (int cells = 1; cells <= 40; cells += 13) {
            for (int lane = 0; lane < 3; lane++) {
                int n = cells;
                int l = lane;
                due.bounds("lay i of " + n, i -> {
                    LadleKings x = new LadleKings();
                    x.sheet(3, l, n);
                    return x.lay(3, i, 7);
                }, 0, 1, n - 1, 1, -12);
            }
        }
        LadleKings x = new LadleKings();
        x.sheet(2, BYTES, 0);
        due.is("no CELLS: INDEX", x.lay(2, 0, 0), -12);
        due.is("no CELLS: INDEX", x.lay(2, -1, 0), -12);
        due.is("nothing: NULL, whatever the CELL", x.lay(1, -1, 0), -11);
        due.is("nothing: NULL, whatever the CELL", x.lay(1, 40, 0), -11);
        due.is("BAD ahead of all", x.lay(4, -1, 0), -1);
        due.is("BAD ahead of all", x.lay(-1, 41, 0), -1);
        x.sheet(2, BYTES, 1);
        int[] values = {Integer.MIN_VALUE, -129, -128, -1, 0, 127, 128, 255, 256, Integer.MAX_VALUE};
        for (int v : values) {
            due.is("any number can be laid", x.lay(2, 0, v), 1);
        }
    }

    private static void laid(int lane, int v, int want) {
        LadleKings x = due.told(FIVE);
        x.sheet(0, lane, 1);
        x.lay(0, 0, v);
        due.is("lane " + lane + ", " + v, stirRead(x, 0, lane, 0), want);
    }

    /** Its lowest bits, with a sign: 8, 16, or all 32 of them. */
    private static void lowestBits() {
        for (int v = 0; v <= 5; v++) {
            int want = v < 5 ? v : -20;
            for (int lane = 0; lane < 3; lane++) {
                laid(lane, v, want);
                laid(lane, v - 6, -20);
                laid(lane, v + 256, lane == BYTES ? want : -20);
                laid(lane, v - 256, lane == BYTES ? want : -20);
                laid(lane, v + 128, -20);
                laid(lane, v + 65536, lane == INTS ? -20 : want);
                laid(lane, v - 65536, lane == INTS ? -20 : want);
                laid(lane, v + 32768, lane == BYTES ? want : -20);
                laid(lane, v + Integer.MIN_VALUE, lane == INTS ? -20 : want);
            }
        }
        int[] ends = {-1, -128, -129, 127, 255, -32768, -32769 - 256, 32767, 65535, Integer.MAX_VALUE};
        for (int v : ends) {
            laid(INTS, v, -20);
            laid(SHORTS, v, -20);
        }
    }

    private static LadleKings withSheet(int cells) {
        LadleKings x = due.told("seats 2;turn 1;turn 2;");
        x.sheet(2, SHORTS, cells);
        return x;
    }

    /** Promise 35: 0 to 20 DAYS of SHEETS 0 to 3, lanes 0 to 2. */
    private static void readEdges() {
        due.bounds("read n", n -> withSheet(40).read(2, SHORTS, 0, n), 0, 0, 20, 20, -1);
        due.bounds("read k", k -> new LadleKings().read(k, 0, 0, 1), 0, 0, 3, 0, -1);
        due.bounds("read lane", lane -> withSheet(40).read(2, lane, 0, 1), 0, 0, 2, 0, -1);
        due.bounds("read k of n 0", k -> new LadleKings().read(k, 0, 0, 0), 0, 0, 3, 0, -1);
        due.bounds("read lane of n 0", lane -> new LadleKings().read(0, lane, 0, 0), 0, 0, 2, 0, -1);
        due.bounds("read f", f -> withSheet(40).read(2, SHORTS, f, 1), 0, 1, 39, 1, 0);
        due.is("from the 20th CELL on", withSheet(40).read(2, SHORTS, 20, 20), 20);
        due.is("from the 21st on", withSheet(40).read(2, SHORTS, 21, 20), 19);
    }

    /** Of n 0: 0, no FAULT, whatever the SHEET is. */
    private static void readOfNone() {
        int[] from = {0, -1, 1, 40, Integer.MIN_VALUE, Integer.MAX_VALUE};
        for (int f : from) {
            LadleKings x = withSheet(1);
            x.read(0, 0, 0, 1);
            due.is("a FAULT ahead", x.torn(), 1);
            due.is("none of nothing", x.read(0, 0, f, 0), 0);
            due.is("no FAULT", x.torn(), 0);
            x.read(2, BYTES, 0, 1);
            due.is("a FAULT ahead", x.torn(), 3);
            due.is("none of another lane", x.read(2, BYTES, f, 0), 0);
            due.is("no FAULT", x.torn(), 0);
            x.read(2, SHORTS, 1, 1);
            due.is("a FAULT ahead", x.torn(), 2);
            due.is("none of its CELLS", x.read(2, SHORTS, f, 0), 0);
            due.is("no FAULT", x.torn(), 0);
            due.is("no DAY went", x.rule(3), 0);
        }
        due.is("no STIRS", new LadleKings().read(0, 0, 0, 0), 0);
    }

    /** Those ahead of the end go; just to the end there is no FAULT. */
    private static void readUpToTheEnd() {
        for (int cells = 0; cells <= 20; cells++) {
            LadleKings x = withSheet(cells);
            due.is("all of them", x.read(2, SHORTS, 0, cells), cells);
            due.is("no FAULT", x.torn(), 0);
            due.is("DAYS", x.rule(3), cells);
            if (cells < 20) {
                due.is("one more", x.read(2, SHORTS, 0, cells + 1), cells);
                due.is("INDEX", x.torn(), 2);
                due.is("DAYS", x.rule(3), 2 * cells);
            }
            due.is("behind the end", x.read(2, SHORTS, cells, 1), 0);
            due.is("INDEX", x.torn(), 2);
            due.is("one before the start", x.read(2, SHORTS, -1, 20), 0);
            due.is("INDEX", x.torn(), 2);
            due.is("so far that it wraps round", x.read(2, SHORTS, Integer.MAX_VALUE, 20), 0);
            due.is("INDEX", x.torn(), 2);
            due.is("so far below", x.read(2, SHORTS, Integer.MIN_VALUE, 20), 0);
            due.is("INDEX", x.torn(), 2);
        }
    }

    /** NULL of nothing by every lane; CAST by every other lane, whatever the CELL. */
    private static void readFaults() {
        for (int lane = 0; lane < 3; lane++) {
            for (int as = 0; as < 3; as++) {
                LadleKings x = due.told("flip;");
                due.is("nothing", x.read(1, as, 0, 20), 0);
                due.is("NULL", x.torn(), 1);
                due.is("nothing", x.read(1, as, -1, 1), 0);
                due.is("NULL ahead of INDEX", x.torn(), 1);
                x.sheet(1, lane, 2);
                due.is("lane " + lane + " as " + as, x.read(1, as, 0, 2), lane == as ? 2 : 0);
                due.is("CAST", x.torn(), lane == as ? 0 : 3);
                due.is("no such CELL", x.read(1, as, 2, 1), 0);
                due.is("CAST ahead of INDEX", x.torn(), lane == as ? 2 : 3);
                x.lay(1, 0, 1);
                due.is("no such STIR", x.read(1, as, 0, 1), lane == as ? -20 : 0);
                x.sheet(1, lane, 0);
                due.is("no CELLS", x.read(1, as, 0, 1), 0);
                due.is("CAST ahead of INDEX", x.torn(), lane == as ? 2 : 3);
            }
        }
    }

    /** -20 less i, for each i: then none goes, and torn() is left. */
    private static void readRefused() {
        int[] wrong = {-1, 5, Integer.MIN_VALUE, Integer.MAX_VALUE};
        for (int i = 0; i < 20; i++) {
            LadleKings x = due.told(FIVE);
            x.read(0, 0, 0, 1);
            x.sheet(3, INTS, 25);
            for (int j = 0; j < 25; j++) {
                x.lay(3, j, j % 5);
            }
            String before = Due.stateOf(x);
            x.lay(3, 5 + i, wrong[i % 4]);
            due.is("DAY " + i, x.read(3, INTS, 5, 20), -20 - i);
            due.isTrue("none goes", before.equals(Due.stateOf(x)));
            due.is("torn is left", x.torn(), 1);
            due.is("those ahead alone", x.read(3, INTS, 5, i), i);
            due.is("no FAULT", x.torn(), 0);
        }
        LadleKings none = new LadleKings();
        none.sheet(0, BYTES, 1);
        due.is("no STIRS", none.read(0, BYTES, 0, 1), -20);
        due.is("at the last STIR", lastStir(4), 1);
        due.is("one behind the last", lastStir(5), -20);
        due.is("one ahead of the first", lastStir(-1), -20);
    }

    private static int lastStir(int v) {
        LadleKings x = due.told(FIVE);
        x.sheet(0, BYTES, 1);
        x.lay(0, 0, v);
        return x.read(0, BYTES, 0, 1);
    }

    /** In whichever way: the 1000th DAY is refused, too, and those ahead of it with it. */
    private static void readTheLastDay() {
        for (int left = 0; left <= 20; left++) {
            LadleKings x = due.told("seats 2;turn 1;");
            x.sheet(0, BYTES, 20);
            for (int i = 0; i < 48; i++) {
                x.read(0, BYTES, 0, 20);
            }
            x.read(0, BYTES, 0, 19);
            x.read(0, BYTES, 0, 20 - left);
            due.is("DAYS", x.rule(3), 999 - left);
            if (left < 20) {
                due.is("one too many", x.read(0, BYTES, 0, left + 1), -20 - left);
                due.is("20", x.read(0, BYTES, 0, 20), -20 - left);
            }
            due.is("none went", x.rule(3), 999 - left);
            due.is("all that are left", x.read(0, BYTES, 0, left), left);
            due.is("DAYS", x.rule(3), 999);
            due.is("one more", x.read(0, BYTES, 0, 1), -20);
            due.is("none", x.read(0, BYTES, 0, 0), 0);
            due.is("no such CELL is met ahead of it", x.read(0, BYTES, 20, 1), 0);
            due.is("INDEX", x.torn(), 2);
        }
    }

    /** What comes first of what the machine refuses and what day() refuses. */
    private static void firstMet() {
        LadleKings x = due.told("seats 2;turn 1;turn 2;");
        x.sheet(0, BYTES, 3);
        x.lay(0, 2, 2);
        due.is("a STIR that there is not, then the end", x.read(0, BYTES, 0, 4), -22);
        due.is("none went", x.rule(3), 0);
        x.lay(0, 2, 1);
        due.is("the end alone", x.read(0, BYTES, 0, 4), 3);
        due.is("INDEX", x.torn(), 2);
        x.lay(0, 0, 9);
        due.is("the end ahead of it is never met", x.read(0, BYTES, -1, 2), 0);
        due.is("INDEX", x.torn(), 2);
        due.is("two that there are not: the first", readTwoWrong(), -21);
    }

    private static int readTwoWrong() {
        LadleKings x = due.told("flip;");
        x.sheet(0, INTS, 4);
        x.lay(0, 1, 7);
        x.lay(0, 3, -7);
        return x.read(0, INTS, 0, 4);
    }

    /** Promise 36: of the latest read() that answered 0 or more. */
    private static void tornEdges() {
        LadleKings x = withSheet(2);
        due.is("no read yet", x.torn(), 0);
        due.is("refused, no read yet", x.read(4, 0, 0, 1), -1);
        due.is("torn", x.torn(), 0);
        x.read(2, SHORTS, 0, 3);
        due.is("INDEX", x.torn(), 2);
        int[][] refused = {{-1, 0, 0, 1}, {4, 0, 0, 1}, {2, -1, 0, 1}, {2, 3, 0, 1}, {2, 1, 0, -1}, {2, 1, 0, 21}};
        for (int[] a : refused) {
            due.is("refused", x.read(a[0], a[1], a[2], a[3]), -1);
            due.is("that leaves it", x.torn(), 2);
        }
        x.lay(2, 1, 2);
        due.is("refused by day()", x.read(2, SHORTS, 0, 2), -21);
        due.is("that leaves it, too", x.torn(), 2);
        x.lay(2, 5, 0);
        x.sheet(2, 0, -1);
        due.is("FAULTS of lay() and sheet() are none of its", x.torn(), 2);
        due.is("a read without one", x.read(2, SHORTS, 0, 1), 1);
        due.is("torn", x.torn(), 0);
    }

    /** Promise 37. */
    private static void countEdges() {
        due.bounds("count", what -> due.told("pot 9 9 9 9;").count(what), 0, 0, 4, 36, -1);
        LadleKings x = new LadleKings();
        due.is("IMAGES", x.count(1), 0);
        x.keep(1);
        due.is("IMAGES", x.count(1), 1);
        x.keep(1);
        due.is("IMAGES", x.count(1), 1);
        x.keep(0);
        due.is("IMAGES", x.count(1), 2);
        for (int k = 1; k < 4; k++) {
            x.sheet(k, BYTES, 5);
            due.is("SHEET 0 is nothing", x.count(3), -4);
        }
        int[] cells = {0, 1, 39, 40};
        for (int n : cells) {
            x.sheet(0, BYTES, n);
            due.is("CELLS", x.count(3), n);
        }
        due.is("PIECES", x.count(4), 0);
        due.is("PIECES of seven", due.told("seats 7;pot 9 9 9 9 9 9 9;").count(4), 63);
        due.is("PIECES of two", due.told("seats 2;pot 9 9;").count(4), 18);
        LadleKings fewer = due.told("seats 7;pot 9 9 9 9 9 9 9;");
        Due.tell(fewer, "seats 2;");
        due.is("PIECES told anew", fewer.count(4), 0);
    }
}
