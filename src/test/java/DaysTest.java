/** What is changed, and days: promises 10 to 18. */
public final class DaysTest {
    private static final String TABLE = "seats 4;pot 1 2 3 4;bone 3;friend 0 2;friend 1 0;turn 1;flip;";
    private static final Due due = new Due();

    public static void main(String[] args) {
        friends();
        spoons();
        crowns();
        fills();
        whoGetsWhat();
        friendsFromBelow();
        daysGo();
        lastDay();
        hunger();
        due.finish();
    }

    /** Promise 10. */
    private static void friends() {
        LadleKings x = due.told(TABLE);
        due.is("befriend", x.befriend(0, 1, true), 0);
        due.is("befriend again", x.befriend(0, 1, true), 1);
        due.is("FRIENDS of 0", x.one(0, 0), 6);
        due.is("FRIENDS of 1 are as before", x.one(1, 0), 1);
        due.is("no more", x.befriend(0, 2, false), 1);
        due.is("no more again", x.befriend(0, 2, false), 0);
        due.is("FRIENDS of 0", x.one(0, 0), 2);
        String before = Due.stateOf(x);
        due.is("himself", x.befriend(3, 3, true), -1);
        due.is("himself, not", x.befriend(3, 3, false), -1);
        due.is("no such SEAT", x.befriend(4, 0, true), -1);
        due.is("no such SEAT", x.befriend(-1, 0, true), -1);
        due.is("no such FRIEND", x.befriend(0, 4, true), -1);
        due.is("no such FRIEND", x.befriend(0, -1, true), -1);
        due.is("no such FRIEND", x.befriend(0, 33, true), -1);
        due.isTrue("refused changes nothing", before.equals(Due.stateOf(x)));
    }

    /** Promise 11. */
    private static void spoons() {
        LadleKings x = due.told(TABLE);
        due.is("spoon", x.spoon(3, 9), 1);
        due.is("spoon", x.spoon(3, 1), 9);
        due.is("spoon", x.spoon(3, 4), 1);
        String before = Due.stateOf(x);
        due.is("none", x.spoon(3, 0), -1);
        due.is("ten", x.spoon(3, 10), -1);
        due.is("below", x.spoon(3, -1), -1);
        due.is("no such SEAT", x.spoon(4, 1), -1);
        due.is("no such SEAT", x.spoon(-1, 1), -1);
        due.isTrue("refused changes nothing", before.equals(Due.stateOf(x)));
        due.is("SPOONS", x.one(3, 1), 4);
    }

    /** Promise 12. */
    private static void crowns() {
        LadleKings x = due.told(TABLE);
        due.is("crown", x.crown(3), 0);
        due.is("crown again", x.crown(3), 3);
        due.is("no such SEAT", x.crown(4), -1);
        due.is("no such SEAT", x.crown(-1), -1);
        due.is("THE KING", x.rule(2), 3);
    }

    /** Promise 13. */
    private static void fills() {
        LadleKings x = due.told(TABLE);
        due.is("fill", x.fill(3, 9), 4);
        due.is("fill", x.fill(3, 0), 9);
        due.is("the BONE stays", x.rule(4), 3);
        due.is("PIECES", x.count(4), 6);
        String before = Due.stateOf(x);
        due.is("ten", x.fill(0, 10), -1);
        due.is("below", x.fill(0, -1), -1);
        due.is("no such PLACE", x.fill(4, 1), -1);
        due.is("no such PLACE", x.fill(-1, 1), -1);
        due.isTrue("refused changes nothing", before.equals(Due.stateOf(x)));
    }

    /** Promises 14, 15, 16: behind turn 1 THE POT is 4 (with the BONE), 1, 2, 3. */
    private static void whoGetsWhat() {
        due.is("next alone", due.told(TABLE).next(2, 0), 3);
        due.is("ladle alone", due.told(TABLE).ladle(2, 3, 0), 0);
        due.is("bowl alone", due.told(TABLE).bowl(2, 3, 0), 4);
        due.is("day alone", due.told("seats 3;king 2;turn 1;").day(0), 1);
        LadleKings x = due.told(TABLE);
        int[][] places = {{3, 0, 2, 1}, {2, 3, 0, 1}, {1, 2, 3, 0}, {0, 1, 2, 3}};
        int[] pot = {4, 1, 2, 3};
        int[] kings = {1, 2, 3, 0};
        String before = Due.stateOf(x);
        for (int k = 0; k < 4; k++) {
            for (int p = 0; p < 4; p++) {
                due.is("ladle " + k + " " + p, x.ladle(k, p, 0), places[k][p]);
                due.is("ladle by flip", x.ladle(k, p, 1), places[k][p]);
                due.is("bowl " + k + " " + p, x.bowl(k, p, 0), pot[places[k][p]]);
            }
            due.is("next " + k, x.next(k, 0), kings[k]);
        }
        due.isTrue("asking changes nothing", before.equals(Due.stateOf(x)));
        int[] wrong = {-1, 4, Integer.MIN_VALUE, Integer.MAX_VALUE};
        for (int bad : wrong) {
            due.is("bowl k", x.bowl(bad, 0, 0), -1);
            due.is("bowl p", x.bowl(0, bad, 0), -1);
            due.is("bowl r", x.bowl(0, 0, bad), -1);
            due.is("ladle k", x.ladle(bad, 0, 0), -1);
            due.is("ladle p", x.ladle(0, bad, 0), -1);
            due.is("ladle r", x.ladle(0, 0, bad), -1);
            due.is("next k", x.next(bad, 0), -1);
            due.is("next r", x.next(0, bad), -1);
        }
        due.is("bowl of no STIR", x.bowl(0, 0, 2), -1);
        due.is("ladle of no STIR", x.ladle(0, 0, 2), -1);
        due.is("next of no STIR", x.next(0, 2), -1);
    }

    /** All are FRIENDS of 2: from him on round the ring each gets the lowest that is left. */
    private static void friendsFromBelow() {
        LadleKings x = due.told("seats 5;pot 1 2 3 4 5;king 2;friend 2 0;friend 2 1;friend 2 3;friend 2 4;"
            + "friend 0 2;swap 0 1;");
        int[] order = {2, 3, 4, 0, 1};
        for (int i = 0; i < 5; i++) {
            due.is("ladle 2 " + order[i], x.ladle(2, order[i], 0), 4 - i);
        }
        due.is("his FRIENDS alone count, not whose FRIEND he is", x.ladle(3, 2, 0), 3);
        due.is("bowl of the last but one", x.bowl(2, 0, 0), 1);
        due.is("bowl of the last", x.bowl(2, 1, 0), 2);
        due.is("the BONE at PLACE 1", x.next(2, 0), 0);
    }

    /** Promise 17. */
    private static void daysGo() {
        LadleKings x = due.told(TABLE);
        due.is("day", x.day(0), 1);
        due.is("DAYS", x.rule(3), 1);
        due.is("THE KING", x.rule(2), 1);
        due.is("the BONE", x.rule(4), 0);
        int[] pot = {4, 1, 2, 3};
        int[] eaten = {3, 4, 2, 1};
        for (int i = 0; i < 4; i++) {
            due.is("THE POT is as it was stirred", x.pot(i), pot[i]);
            due.is("EATEN", x.one(i, 3), eaten[i]);
        }
        // flip: 3 2 1 4, the BONE at the bottom, which KING 1 gets; 0, his FRIEND, comes last: PLACE 2.
        due.is("day", x.day(1), 1);
        int[] more = {3 + 1, 4 + 4, 2 + 3, 1 + 2};
        for (int i = 0; i < 4; i++) {
            due.is("EATEN", x.one(i, 3), more[i]);
        }
        String before = Due.stateOf(x);
        due.is("no such STIR", x.day(2), -1);
        due.is("no such STIR", x.day(-1), -1);
        due.is("no such STIR", x.day(Integer.MAX_VALUE), -1);
        due.isTrue("refused changes nothing", before.equals(Due.stateOf(x)));
    }

    private static void lastDay() {
        LadleKings x = due.told("seats 2;pot 9 0;bone 1;need 0 1;turn 2;");
        x.sheet(0, 0, 20);
        for (int i = 0; i < 49; i++) {
            due.is("read", x.read(0, 0, 0, 20), 20);
        }
        due.is("DAYS", x.rule(3), 980);
        due.is("the 1000th among them", x.read(0, 0, 0, 20), -39);
        due.is("then none goes", x.rule(3), 980);
        due.is("up to 998", x.read(0, 0, 0, 18), 18);
        due.is("the 999th", x.day(0), 0);
        due.is("DAYS", x.rule(3), 999);
        String before = Due.stateOf(x);
        due.is("the 1000th", x.day(0), -3);
        due.is("BAD comes first", x.day(1), -1);
        due.is("the 1000th of a SHEET", x.read(0, 0, 0, 1), -20);
        due.isTrue("refused changes nothing", before.equals(Due.stateOf(x)));
        due.is("EATEN of 1", x.one(1, 3), 9 * 999);
        due.is("hungry", x.hungry(), 1);
    }

    /** Promise 18: by each DAY 0 gets 2, 1 gets 3, 2 gets 4. */
    private static void hunger() {
        LadleKings x = due.told("seats 3;pot 3 4 2;bone 2;need 0 2;need 1 4;need 2 5;turn 3;turn 1;");
        due.is("no DAYS", x.hungry(), 0);
        due.is("day", x.day(0), 0);
        due.is("day", x.day(0), 0);
        due.is("less than NEED times DAYS", x.hungry(), 6);
        x.fill(0, 9);
        due.is("nothing is eaten yet", x.hungry(), 6);
        due.is("day", x.day(0), 0);
        due.is("enough by one rich DAY", x.hungry(), 4);
    }
}
