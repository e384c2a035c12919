/** Images, sheets: promises 31 to 37. */
public final class SheetTest {
    private static final String TABLE = "seats 4;pot 1 2 3 4;bone 3;friend 0 2;need 1 3;turn 1;flip;swap 0 2;";
    private static final int[] WRONG = {-1, 41, Integer.MIN_VALUE, Integer.MAX_VALUE};
    private static final Due due = new Due();

    public static void main(String[] args) {
        imagesAreKept();
        imagesGoBack();
        sheetsAreMade();
        cellsAreLaid();
        daysAreRead();
        whatTheMachineRefuses();
        whatDayRefuses();
        counts();
        due.finish();
    }

    /** Promise 31. */
    private static void imagesAreKept() {
        LadleKings x = due.told(TABLE);
        due.is("keep", x.keep(0), 0);
        due.is("keep again", x.keep(0), 1);
        due.is("keep 1", x.keep(1), 0);
        due.is("IMAGES", x.count(1), 2);
        due.is("keep 2", x.keep(2), -1);
        for (int bad : WRONG) {
            due.is("keep", x.keep(bad), -1);
            due.is("back", x.back(bad), -1);
        }
        due.is("back 2", x.back(2), -1);
    }

    /** Promise 32. */
    private static void imagesGoBack() {
        LadleKings x = due.told(TABLE);
        due.is("there is none", x.back(0), -2);
        x.see(1);
        x.day(0);
        String first = Due.stateOf(x) + x.count(1);
        due.is("keep 1", x.keep(1), 0);
        due.is("0 is none still", x.back(0), -2);
        x.day(1);
        x.see(2);
        x.befriend(3, 0, true);
        x.befriend(0, 2, false);
        x.spoon(2, 7);
        x.fill(1, 9);
        x.crown(3);
        String later = Due.stateOf(x);
        x.keep(0);
        x.forget(0);
        due.is("back 1", x.back(1), 1);
        x.back(0);
        due.is("back 0: THE KING", x.rule(2), 3);
        due.isTrue("all is as the later IMAGE", withoutImages(later).equals(withoutImages(Due.stateOf(x))));
        due.is("back 1", x.back(1), 1);
        due.isTrue("all is as the first IMAGE", withoutImages(first).startsWith(withoutImages(Due.stateOf(x))));
        due.is("IMAGES stay", x.count(1), 2);
        x.sheet(0, 0, 5);
        Due.feedAll(x, "abc");
        due.is("back 0", x.back(0), 3);
        due.is("SHEETS are no part of it", x.count(3), 5);
        due.is("nor is THE TAPE", x.count(2), 3);
        x.spoon(2, 1);
        due.is("an IMAGE does not change with what it was made of", x.back(0), 3);
        due.is("SPOONS", x.one(2, 1), 7);
    }

    private static String withoutImages(String state) {
        String[] parts = state.split(" ", 5);
        return parts[0] + parts[1] + parts[2] + parts[4];
    }

    /** Promise 33. */
    private static void sheetsAreMade() {
        LadleKings x = new LadleKings();
        due.is("sheet", x.sheet(0, 0, 40), 1);
        due.is("CELLS", x.count(3), 40);
        due.is("no CELLS", x.sheet(0, 2, 0), 1);
        due.is("CELLS", x.count(3), 0);
        due.is("sheet 3", x.sheet(3, 1, 1), 1);
        due.is("SIZE", x.sheet(0, 0, -1), -14);
        due.is("SIZE", x.sheet(0, 0, Integer.MIN_VALUE), -14);
        due.is("refused changes nothing", x.count(3), 0);
        due.is("too many", x.sheet(0, 0, 41), -1);
        due.is("too many", x.sheet(0, 0, Integer.MAX_VALUE), -1);
        due.is("k ahead of SIZE", x.sheet(4, 0, -1), -1);
        due.is("lane ahead of SIZE", x.sheet(0, 3, -1), -1);
        for (int bad : WRONG) {
            due.is("k", x.sheet(bad, 0, 1), -1);
            due.is("lane", x.sheet(0, bad, 1), -1);
        }
        due.is("k", x.sheet(4, 0, 1), -1);
        due.is("lane", x.sheet(0, 3, 1), -1);
    }

    /** Promise 34. */
    private static void cellsAreLaid() {
        LadleKings x = due.told(TABLE);
        due.is("NULL", x.lay(0, 0, 1), -11);
        due.is("NULL ahead of INDEX", x.lay(0, -1, 1), -11);
        x.sheet(0, 0, 2);
        due.is("lay", x.lay(0, 0, 1), 1);
        due.is("lay", x.lay(0, 1, -1), 1);
        due.is("INDEX", x.lay(0, 2, 1), -12);
        due.is("INDEX", x.lay(0, -1, 1), -12);
        due.is("INDEX", x.lay(0, Integer.MAX_VALUE, 1), -12);
        due.is("k", x.lay(4, 0, 1), -1);
        for (int bad : WRONG) {
            due.is("k", x.lay(bad, 0, 1), -1);
        }
        due.is("CELL 0 is STIR 1", x.read(0, 0, 0, 1), 1);
        due.is("CELL 1 is below 0", x.read(0, 0, 1, 1), -20);
        x.sheet(0, 0, 2);
        due.is("a new row is of 0", x.read(0, 0, 0, 2), 2);
        lanes();
    }

    /** The lowest bits alone, with a sign. */
    private static void lanes() {
        int[] values = {256 + 1, 128, 65536 + 1, 32768, 0x7fffff01};
        int[][] want = {{1, -20, 1, 1, 1}, {-20, -20, 1, -20, -20}, {-20, -20, -20, -20, -20}};
        for (int lane = 0; lane < 3; lane++) {
            for (int i = 0; i < values.length; i++) {
                LadleKings x = due.told(TABLE);
                x.sheet(2, lane, 1);
                due.is("lay", x.lay(2, 0, values[i]), 1);
                due.is("lane " + lane + " of " + values[i], x.read(2, lane, 0, 1), want[lane][i]);
            }
        }
        LadleKings x = due.told(TABLE);
        x.sheet(2, 0, 1);
        x.lay(2, 0, 257);
        LadleKings y = due.told(TABLE);
        x.read(2, 0, 0, 1);
        y.day(1);
        due.is("it was STIR 1", x.pot(0), y.pot(0));
    }

    /** Promise 35. */
    private static void daysAreRead() {
        LadleKings x = due.told(TABLE);
        LadleKings y = due.told(TABLE);
        x.sheet(1, 1, 40);
        for (int i = 0; i < 40; i++) {
            x.lay(1, i, i % 3);
        }
        due.is("read", x.read(1, 1, 5, 20), 20);
        for (int i = 5; i < 25; i++) {
            y.day(i % 3);
        }
        due.isTrue("as by day()", withoutImages(Due.stateOf(x)).equals(withoutImages(Due.stateOf(y))));
        due.is("no FAULT", x.torn(), 0);
        due.is("n", x.read(1, 1, 0, 21), -1);
        due.is("n", x.read(1, 1, 0, -1), -1);
        due.is("k", x.read(4, 1, 0, 1), -1);
        due.is("lane", x.read(1, 3, 0, 1), -1);
        for (int bad : WRONG) {
            due.is("k", x.read(bad, 1, 0, 0), -1);
            due.is("lane", x.read(1, bad, 0, 0), -1);
            due.is("n", x.read(1, 1, 0, bad), -1);
        }
        due.is("DAYS", x.rule(3), 20);
    }

    /** Promise 36, too. */
    private static void whatTheMachineRefuses() {
        LadleKings x = due.told(TABLE);
        x.sheet(1, 1, 3);
        due.is("three go", x.read(1, 1, 0, 4), 3);
        due.is("INDEX", x.torn(), 2);
        due.is("DAYS", x.rule(3), 3);
        due.is("NULL", x.read(0, 0, 0, 1), 0);
        due.is("NULL", x.torn(), 1);
        due.is("CAST", x.read(1, 0, 0, 1), 0);
        due.is("CAST", x.torn(), 3);
        due.is("CAST ahead of INDEX", x.read(1, 2, -1, 1), 0);
        due.is("CAST", x.torn(), 3);
        due.is("INDEX below", x.read(1, 1, -1, 2), 0);
        due.is("INDEX", x.torn(), 2);
        due.is("refused by BAD", x.read(1, 1, 0, 21), -1);
        due.is("that leaves it", x.torn(), 2);
        due.is("none of nothing", x.read(0, 0, 0, 0), 0);
        due.is("no FAULT", x.torn(), 0);
        due.is("INDEX far", x.read(1, 1, Integer.MAX_VALUE, 2), 0);
        due.is("INDEX", x.torn(), 2);
        due.is("none of another lane", x.read(1, 0, -5, 0), 0);
        due.is("no FAULT", x.torn(), 0);
        due.is("INDEX far", x.read(1, 1, Integer.MIN_VALUE, 2), 0);
        due.is("INDEX", x.torn(), 2);
        due.is("DAYS", x.rule(3), 3);
        x.sheet(2, 2, 0);
        due.is("no CELLS", x.read(2, 2, 0, 1), 0);
        due.is("INDEX", x.torn(), 2);
        due.is("all go", x.read(1, 1, 0, 3), 3);
        due.is("no FAULT", x.torn(), 0);
    }

    private static void whatDayRefuses() {
        LadleKings x = due.told(TABLE);
        x.sheet(0, 2, 3);
        x.lay(0, 1, 3);
        x.read(1, 0, 0, 1);
        String before = Due.stateOf(x);
        due.is("CELL 1 is no STIR", x.read(0, 2, 0, 3), -21);
        due.is("met ahead of INDEX", x.read(0, 2, 1, 4), -20);
        due.isTrue("none goes, torn() stays", before.equals(Due.stateOf(x)));
        due.is("torn", x.torn(), 1);
        due.is("INDEX is met first", x.read(0, 2, 2, 4), 1);
        due.is("INDEX", x.torn(), 2);
        LadleKings none = new LadleKings();
        none.sheet(0, 0, 1);
        due.is("no STIRS", none.read(0, 0, 0, 1), -20);
    }

    /** Promise 37. */
    private static void counts() {
        LadleKings x = due.told(TABLE);
        due.is("SHEET 0 is nothing", x.count(3), -4);
        x.sheet(1, 0, 9);
        due.is("SHEET 0 alone counts", x.count(3), -4);
        x.sheet(0, 0, 7);
        x.see(0);
        x.see(0);
        x.keep(1);
        Due.feedAll(x, "flip;");
        int[] want = {2, 1, 5, 7, 10};
        for (int what = 0; what < 5; what++) {
            due.is("count " + what, x.count(what), want[what]);
        }
        x.day(0);
        due.is("THE POT is full the next DAY", x.count(4), 10);
        due.is("count -1", x.count(-1), -1);
        due.is("count 5", x.count(5), -1);
    }
}
