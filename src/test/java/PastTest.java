/** Seen, and fair stirs: promises 25 to 28 and 30. */
public final class PastTest {
    private static final int[] WRONG = {-1, 20, Integer.MIN_VALUE, Integer.MAX_VALUE};
    private static final Due due = new Due();

    public static void main(String[] args) {
        seeing();
        forgetting();
        historiesOfNothing();
        historiesOfTwo();
        manyHistories();
        askedFromNow();
        historiesByDays(FOUR);
        historiesByDays(UNLIKE);
        fairDays();
        fairByDays();
        fairLastRow();
        fairFromTheKingThatIs();
        fairWrong();
        due.finish();
    }

    /** Promise 25. */
    private static void seeing() {
        LadleKings x = new LadleKings();
        for (int i = 1; i <= 6; i++) {
            due.is("see", x.see(i % 4), i);
        }
        due.is("see the 7th", x.see(0), -3);
        due.is("BAD first", x.see(4), -1);
        due.is("SEEN", x.count(0), 6);
        LadleKings y = new LadleKings();
        due.is("no such SEAT", y.see(-1), -1);
        due.is("no such SEAT", y.see(4), -1);
        due.is("SEEN", y.count(0), 0);
    }

    /** Promise 26. */
    private static void forgetting() {
        LadleKings x = due.told("seats 2;turn 1;turn 2;");
        due.is("forget of none", x.forget(0), 0);
        due.is("forget 1 of none", x.forget(1), -1);
        x.see(0);
        x.see(1);
        x.see(0);
        due.is("below", x.forget(-1), -1);
        due.is("above", x.forget(4), -1);
        due.is("refused changes nothing", x.count(0), 3);
        due.is("forget none of them", x.forget(3), 3);
        due.is("the first one is left", x.forget(1), 3);
        due.is("SEEN", x.count(0), 1);
        due.is("the first was 0: the BONE went down", x.histories(10), 0);
        due.is("see goes on", x.see(1), 2);
        due.is("forget all", x.forget(0), 2);
    }

    private static void historiesOfNothing() {
        LadleKings x = new LadleKings();
        due.is("nothing SEEN: one HISTORY of no DAY", x.histories(0), 1);
        due.is("it has no STIR", x.histories(10), -4);
        due.is("no DAY", x.could(0), -1);
        x.see(0);
        due.is("no STIRS, a DAY was SEEN", x.histories(0), 0);
        due.is("no HISTORY", x.histories(10), -4);
        due.is("no STIR can have been", x.could(0), 0);
        for (int bad : WRONG) {
            due.is("histories", x.histories(bad), -1);
            due.is("could", x.could(bad), -1);
        }
        due.is("histories", x.histories(1), -1);
        due.is("histories", x.histories(9), -1);
        due.is("histories", x.histories(16), -1);
        due.is("histories", x.histories(15), -4);
        due.is("could", x.could(1), -1);
    }

    /** Promises 27 and 28: turns by odd numbers move the BONE between the two PLACES; the KING gets PLACE 1. */
    private static void historiesOfTwo() {
        LadleKings x = due.told("seats 2;turn 2;turn 1;turn 3;");
        x.see(0);
        String before = Due.stateOf(x);
        due.is("down by 1 or 2", x.histories(0), 2);
        due.is("first", x.histories(10), 1);
        due.is("not so many", x.histories(11), -4);
        due.is("could", x.could(0), 6);
        due.isTrue("asking changes nothing", before.equals(Due.stateOf(x)));
        x.see(1);
        due.is("up by 1 or 2", x.histories(0), 4);
        due.is("first", x.histories(11), 1);
        x.see(1);
        due.is("1 as KING gets PLACE 1: down again", x.histories(0), 8);
        due.is("first", x.histories(12), 1);
        x.see(1);
        due.is("it stays there", x.histories(0), 8);
        due.is("first", x.histories(13), 0);
        due.is("could", x.could(3), 1);
        due.is("could", x.could(2), 6);
        due.is("no such DAY", x.could(4), -1);
    }

    private static void manyHistories() {
        LadleKings x = due.told("seats 2;bone 1;turn 2;turn 4;turn 6;turn 2;turn 2;");
        for (int i = 0; i < 6; i++) {
            x.see(0);
        }
        due.is("all rows", x.histories(0), 15625);
        for (int i = 0; i < 6; i++) {
            due.is("first", x.histories(10 + i), 0);
            due.is("could", x.could(i), 31);
        }
        x.forget(5);
        x.see(1);
        due.is("no row", x.histories(0), 0);
        due.is("no STIR of DAY 0 by a whole HISTORY", x.could(0), 0);
    }

    /** What is SEEN is behind the DAYS from when it is asked: it was so, and is no more when the BONE has gone. */
    private static void askedFromNow() {
        LadleKings x = due.told("seats 2;turn 2;turn 1;");
        x.see(0);
        due.is("from PLACE 0", x.histories(10), 1);
        due.is("a DAY goes", x.day(1), 0);
        due.is("SEEN stays", x.count(0), 1);
        due.is("from PLACE 1", x.histories(10), 0);
        due.is("could", x.could(0), 1);
        x.crown(1);
        due.is("0 gets PLACE 0 now", x.histories(10), 1);
    }

    private static final String FOUR = "seats 4;pot 1 2 3 4;bone 3;friend 0 2;friend 1 0;friend 3 1;"
        + "turn 1;flip;swap 0 2;lift 3;";

    /** Each STIR brings the BONE to another PLACE: so there is one HISTORY at most. */
    private static final String UNLIKE = "seats 4;bone 2;king 1;friend 2 3;friend 1 3;turn 1;turn 4;turn 2;turn 3;";

    /** Three DAYS by each of 64 rows, as they go, tell which KINGS are seen by which rows. */
    private static void historiesByDays(String text) {
        for (int seen = 0; seen < 64; seen++) {
            LadleKings x = due.told(text);
            int many = 0;
            int first = -1;
            int[] could = new int[3];
            for (int row = 0; row < 64; row++) {
                if (kingsOf(text, row) == seen) {
                    many++;
                    first = first < 0 ? row : first;
                    for (int i = 0; i < 3; i++) {
                        could[i] |= 1 << stirOf(row, i);
                    }
                }
            }
            for (int i = 0; i < 3; i++) {
                x.see(stirOf(seen, i));
            }
            due.is("histories of " + seen, x.histories(0), many);
            for (int i = 0; i < 3; i++) {
                due.is("first of " + seen, x.histories(10 + i), first < 0 ? -4 : stirOf(first, i));
                due.is("could of " + seen, x.could(i), could[i]);
            }
        }
    }

    /** Three figures of two bits, the first one highest. */
    private static int stirOf(int row, int i) {
        return (row >> (4 - 2 * i)) & 3;
    }

    private static int kingsOf(String text, int row) {
        LadleKings x = new LadleKings();
        Due.tell(x, text);
        int kings = 0;
        for (int i = 0; i < 3; i++) {
            kings = 4 * kings + x.day(stirOf(row, i));
        }
        return kings;
    }

    /** What was EATEN behind three DAYS by each of 64 rows tells which is most alike. */
    private static void fairByDays() {
        int best = 1000;
        int first = -1;
        for (int row = 0; row < 64; row++) {
            LadleKings x = new LadleKings();
            Due.tell(x, FOUR);
            int most = 0;
            int least = 1000;
            for (int i = 0; i < 3; i++) {
                x.day(stirOf(row, i));
            }
            for (int p = 0; p < 4; p++) {
                most = Math.max(most, x.one(p, 3));
                least = Math.min(least, x.one(p, 3));
            }
            if (most - least < best) {
                best = most - least;
                first = row;
            }
        }
        LadleKings x = due.told(FOUR);
        due.is("fair by DAYS", x.fair(3, 0), best);
        for (int i = 0; i < 3; i++) {
            due.is("fair by DAYS, DAY " + i, due.told(FOUR).fair(3, 10 + i), stirOf(first, i));
        }
    }

    /** Promise 30. */
    private static void fairDays() {
        LadleKings x = due.told("seats 2;pot 0 5;bone 1;turn 2;flip;");
        String before = Due.stateOf(x);
        due.is("one DAY", x.fair(1, 0), 5);
        due.is("its STIR", x.fair(1, 10), 0);
        due.is("not so many", x.fair(1, 11), -4);
        // turn 2: 0 gets 5 with the BONE; flip: 1 gets 5 with the BONE. So 0 0: 10; 0 1: alike.
        due.is("two DAYS", x.fair(2, 0), 0);
        due.is("the first", x.fair(2, 10), 0);
        due.is("the second", x.fair(2, 11), 1);
        due.is("three DAYS", x.fair(3, 0), 5);
        due.is("the first such row: DAY 0", x.fair(3, 10), 0);
        due.is("DAY 1", x.fair(3, 11), 0);
        due.is("DAY 2", x.fair(3, 12), 1);
        due.is("four DAYS", x.fair(4, 0), 0);
        // Behind 0 0, by which 0 has ten, flip makes 1 KING with five; flip again brings him five more.
        due.is("DAY 0", x.fair(4, 10), 0);
        due.is("DAY 1", x.fair(4, 11), 0);
        due.is("DAY 2", x.fair(4, 12), 1);
        due.is("DAY 3", x.fair(4, 13), 1);
        due.isTrue("asking changes nothing", before.equals(Due.stateOf(x)));
        LadleKings y = due.told("seats 3;pot 2 2 2;flip;");
        due.is("alike", y.fair(4, 0), 0);
        x.day(0);
        due.is("what was EATEN does not count", x.fair(1, 0), 5);
    }

    /** By lifts alone each one gets 2, 5, 7 and 8; of all 625 rows that is the last. */
    private static void fairLastRow() {
        LadleKings x = due.told("seats 4;pot 2 8 7 5;bone 2;king 3;swap 2 1;swap 2 1;swap 2 1;swap 2 1;lift 3;");
        for (int again = 0; again < 2; again++) {
            due.is("the last row", x.fair(4, 0), 0);
            for (int i = 0; i < 4; i++) {
                due.is("the last row, DAY " + i, x.fair(4, 10 + i), 4);
            }
        }
    }

    /** Whoever is KING when it is asked begins; what goes by day() is what fair() foretells. */
    private static void fairFromTheKingThatIs() {
        LadleKings x = due.told("seats 3;pot 1 4 9;bone 0;friend 0 1;turn 1;");
        int[] twoDays = {11, 11, 16};
        int[] fourDays = {14, 2, 19};
        for (int k = 0; k < 3; k++) {
            x.crown(k);
            due.is("KING " + k + ", two DAYS", x.fair(2, 0), twoDays[k]);
            due.is("KING " + k + ", four DAYS", x.fair(4, 0), fourDays[k]);
            for (int n = 1; n <= 4; n++) {
                due.is("KING " + k + ", DAYS " + n, x.fair(n, 0), spreadOfDays(x, n));
            }
        }
    }

    /** Where there is one STIR alone, the DAYS go and are taken back. */
    private static int spreadOfDays(LadleKings x, int n) {
        x.keep(1);
        int seats = x.rule(0);
        int greatest = Integer.MIN_VALUE;
        int least = Integer.MAX_VALUE;
        int[] before = new int[seats];
        for (int p = 0; p < seats; p++) {
            before[p] = x.one(p, 3);
        }
        for (int i = 0; i < n; i++) {
            x.day(0);
        }
        for (int p = 0; p < seats; p++) {
            greatest = Math.max(greatest, x.one(p, 3) - before[p]);
            least = Math.min(least, x.one(p, 3) - before[p]);
        }
        x.back(1);
        return greatest - least;
    }

    private static void fairWrong() {
        LadleKings x = due.told("seats 2;pot 0 5;flip;");
        for (int bad : WRONG) {
            due.is("fair n", x.fair(bad, 0), -1);
            due.is("fair what", x.fair(1, bad), -1);
        }
        due.is("fair n", x.fair(0, 0), -1);
        due.is("fair n", x.fair(5, 0), -1);
        due.is("fair what", x.fair(1, 1), -1);
        due.is("fair what", x.fair(1, 9), -1);
        due.is("fair what", x.fair(4, 14), -1);
        due.is("not so many", x.fair(3, 13), -4);
        LadleKings none = new LadleKings();
        due.is("no STIRS", none.fair(1, 0), -2);
        due.is("no STIRS, ahead of NONE", none.fair(1, 13), -2);
        due.is("no STIRS, BAD first", none.fair(5, 0), -1);
    }
}
