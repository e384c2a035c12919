/** Luck, reigns, luck of one: promises 19 to 22 and 29. */
public final class LuckTest {
    /** Of five STIRS three move the BONE to the other PLACE; who is not KING gets PLACE 0. */
    private static final String TWO = "seats 2;turn 1;turn 2;turn 3;turn 4;turn 5;";
    private static final int[] WRONG = {-1, 20, Integer.MIN_VALUE, Integer.MAX_VALUE};
    private static final Due due = new Due();

    public static void main(String[] args) {
        chances();
        lasting();
        reigns();
        raises();
        raisesOfTenDays();
        rowsAreWalked();
        noStirs();
        blinds();
        due.finish();
    }

    private static void fraction(String call, long numerator, long denominator, long a, long b) {
        due.is(call + " numerator", numerator, a);
        due.is(call + " denominator", denominator, b);
    }

    private static void chance(LadleKings x, int p, int n, long a, long b) {
        fraction("chance " + p + " " + n, x.chance(p, n, 0), x.chance(p, n, 1), a, b);
    }

    /** Promise 19. */
    private static void chances() {
        LadleKings x = due.told(TWO);
        String before = Due.stateOf(x);
        chance(x, 0, 0, 1, 1);
        chance(x, 1, 0, 0, 1);
        chance(x, 0, 1, 3, 5);
        chance(x, 1, 1, 2, 5);
        // 0 is KING behind two DAYS: he stays (3/5 2/5), or 1 is KING with the BONE at 0 and 0 finds it (2/5 2/5).
        chance(x, 0, 2, 2, 5);
        chance(x, 1, 2, 3, 5);
        due.is("the whole at ten DAYS", x.chance(0, 10, 1) % 5, 0);
        due.isTrue("asking changes nothing", before.equals(Due.stateOf(x)));
        LadleKings sure = due.told("seats 2;bone 1;king 1;turn 2;flip;flip;turn 4;");
        chance(sure, 1, 1, 1, 2);
        for (int bad : WRONG) {
            due.is("chance p", x.chance(bad, 1, 0), -1);
            due.is("chance n", x.chance(0, bad, 0), -1);
            due.is("chance what", x.chance(0, 1, bad), -1);
        }
        due.is("chance p", x.chance(2, 1, 0), -1);
        due.is("chance n", x.chance(0, 11, 0), -1);
        due.is("chance what", x.chance(0, 1, 2), -1);
    }

    /** Promise 20. */
    private static void lasting() {
        LadleKings x = due.told(TWO);
        fraction("lasts 0", x.lasts(0, 0), x.lasts(0, 1), 1, 1);
        fraction("lasts 1", x.lasts(1, 0), x.lasts(1, 1), 3, 5);
        fraction("lasts 2", x.lasts(2, 0), x.lasts(2, 1), 6, 25);
        fraction("lasts 10", x.lasts(10, 0), x.lasts(10, 1), 3 * 512, 9765625);
        x.crown(1);
        fraction("lasts of 1", x.lasts(1, 0), x.lasts(1, 1), 3, 5);
        LadleKings never = due.told("seats 2;turn 2;");
        fraction("lasts never", never.lasts(3, 0), never.lasts(3, 1), 0, 1);
        fraction("lasts no DAY", never.lasts(0, 0), never.lasts(0, 1), 1, 1);
        for (int bad : WRONG) {
            due.is("lasts n", x.lasts(bad, 0), -1);
            due.is("lasts what", x.lasts(1, bad), -1);
        }
        due.is("lasts n", x.lasts(11, 0), -1);
        due.is("lasts what", x.lasts(1, 2), -1);
    }

    /** Promise 21. */
    private static void reigns() {
        LadleKings x = due.told(TWO);
        String before = Due.stateOf(x);
        for (int n = 1; n <= 10; n++) {
            due.is("reign " + n, x.reign(n, 0), n);
            due.is("the BONE is brought down", x.reign(n, 10), 0);
            for (int i = 1; i < 10; i++) {
                due.is("and stays, DAY " + i, x.reign(n, 10 + i), i < n ? 1 : -4);
            }
        }
        due.isTrue("asking changes nothing", before.equals(Due.stateOf(x)));
        LadleKings never = due.told("seats 2;turn 2;");
        due.is("no reign", never.reign(10, 0), 0);
        due.is("no STIR of it", never.reign(10, 10), -4);
        LadleKings once = due.told("seats 3;turn 1;turn 2;");
        due.is("one DAY", once.reign(5, 0), 1);
        due.is("by turn 2", once.reign(5, 10), 1);
        due.is("no second", once.reign(5, 11), -4);
        for (int bad : WRONG) {
            due.is("reign n", x.reign(bad, 0), -1);
            due.is("reign what", x.reign(1, bad), -1);
        }
        due.is("reign n", x.reign(0, 0), -1);
        due.is("reign n", x.reign(11, 0), -1);
        due.is("reign what", x.reign(1, 1), -1);
        due.is("reign what", x.reign(1, 9), -1);
        due.is("BAD ahead of NONE", x.reign(0, 19), -1);
    }

    /** Promise 22. */
    private static void raises() {
        LadleKings x = due.told("seats 3;turn 1;turn 2;flip;turn 3;");
        String before = Due.stateOf(x);
        due.is("he is KING", x.raise(0, 0), 0);
        due.is("no STIR is needed", x.raise(0, 10), -4);
        due.is("1 gets PLACE 0", x.raise(1, 0), 1);
        due.is("the BONE stays there", x.raise(1, 10), 3);
        due.is("2 gets PLACE 1", x.raise(2, 0), 1);
        due.is("by turn 1", x.raise(2, 10), 0);
        due.is("no second", x.raise(2, 11), -4);
        due.isTrue("asking changes nothing", before.equals(Due.stateOf(x)));
        LadleKings still = due.told("seats 3;bone 2;swap 0 1;");
        due.is("never", still.raise(1, 0), -4);
        due.is("no row", still.raise(1, 10), -4);
        for (int bad : WRONG) {
            due.is("raise p", x.raise(bad, 0), -1);
            due.is("raise what", x.raise(0, bad), -1);
        }
        due.is("raise p", x.raise(3, 0), -1);
        due.is("raise what", x.raise(0, 1), -1);
        due.is("raise what", x.raise(0, 9), -1);
    }

    private static void raisesOfTenDays() {
        raisedBehind("seats 6;bone 0;friend 5 4;friend 2 0;friend 5 3;flip;", 5, 10);
        raisedBehind("seats 7;bone 3;friend 6 3;friend 4 6;friend 0 3;turn 3;", 2, 11);
    }

    /** There is one STIR alone: so the DAYS themselves tell when p is KING first. */
    private static void raisedBehind(String text, int p, int days) {
        LadleKings x = due.told(text);
        due.is("raise", x.raise(p, 0), days <= 10 ? days : -4);
        for (int i = 0; i < 10; i++) {
            due.is("STIR of DAY " + i, x.raise(p, 10 + i), days <= 10 ? 0 : -4);
        }
        for (int i = 1; i <= days; i++) {
            boolean isKing = x.day(0) == p;
            due.isTrue("KING behind DAY " + i, isKing == (i == days));
        }
    }

    /** The rows that are told do what is said of them when their DAYS go. */
    private static void rowsAreWalked() {
        String[] texts = {
            "seats 4;bone 3;friend 0 2;friend 1 0;friend 3 1;flip;swap 0 2;",
            "seats 7;bone 2;friend 0 3;turn 1;",
            "seats 7;bone 5;king 4;friend 4 5;swap 0 6;turn 2;",
            "seats 6;bone 1;lift 5;flip;",
            "seats 5;bone 4;king 3;lift 2;turn 3;swap 1 4;",
        };
        for (String text : texts) {
            int seats = text.charAt(6) - '0';
            for (int p = 0; p < seats; p++) {
                walkToCrown(text, p);
            }
            walkOfReign(text);
        }
    }

    private static void walkToCrown(String text, int p) {
        LadleKings x = due.told(text);
        int days = x.raise(p, 0);
        int[] row = new int[10];
        for (int i = 0; i < 10; i++) {
            row[i] = x.raise(p, 10 + i);
            due.isTrue("STIR of DAY " + i, (row[i] >= 0) == (i < days));
        }
        for (int i = 0; i < days; i++) {
            due.isTrue("no earlier", x.rule(2) != p);
            x.day(row[i]);
        }
        due.isTrue(text + " makes " + p + " KING", days == -4 || x.rule(2) == p);
    }

    private static void walkOfReign(String text) {
        LadleKings x = due.told(text);
        int king = x.rule(2);
        int days = x.reign(10, 0);
        int[] row = new int[10];
        for (int i = 0; i < 10; i++) {
            row[i] = x.reign(10, 10 + i);
        }
        for (int i = 0; i < days; i++) {
            due.is(text + " keeps him", x.day(row[i]), king);
        }
    }

    private static void noStirs() {
        LadleKings x = new LadleKings();
        due.is("chance", x.chance(0, 0, 0), -2);
        due.is("chance, BAD first", x.chance(0, 0, 2), -1);
        due.is("lasts", x.lasts(0, 1), -2);
        due.is("lasts, BAD first", x.lasts(-1, 1), -1);
        due.is("reign", x.reign(1, 0), -2);
        due.is("reign", x.reign(1, 19), -2);
        due.is("reign, BAD first", x.reign(1, 20), -1);
        due.is("raise", x.raise(0, 0), -2);
        due.is("raise", x.raise(1, 10), -2);
        due.is("raise, BAD first", x.raise(4, 0), -1);
    }

    private static void blind(LadleKings x, int m, int n, long a, long b) {
        fraction("blind " + m + " " + n, x.blind(m, n, 0), x.blind(m, n, 1), a, b);
    }

    /** Promise 29; it needs no STIRS. */
    private static void blinds() {
        LadleKings x = new LadleKings();
        blind(x, 1, 1, 1, 4);
        blind(x, 0, 1, 1, 1);
        blind(x, 1, 2, 7, 16);
        blind(x, 2, 3, 5, 32);
        blind(x, 0, 12, 1, 1);
        blind(x, 12, 12, 1, 16777216);
        blind(due.told("seats 7;"), 12, 12, 1, 13841287201L);
        blind(due.told("seats 7;"), 1, 12, 13841287201L - 2176782336L, 13841287201L);
        blind(due.told("seats 2;"), 6, 12, 1255, 2048);
        blind(due.told("seats 6;"), 1, 2, 11, 36);
        for (int bad : WRONG) {
            due.is("blind m", x.blind(bad, 1, 0), -1);
            due.is("blind n", x.blind(0, bad, 0), -1);
            due.is("blind what", x.blind(0, 1, bad), -1);
        }
        due.is("blind n", x.blind(0, 0, 0), -1);
        due.is("blind n", x.blind(0, 13, 0), -1);
        due.is("blind m above n", x.blind(4, 3, 0), -1);
        due.is("blind what", x.blind(0, 1, 2), -1);
    }
}
