/** Coups: promises 23 and 24. */
public final class CoupTest {
    private static final int[] WRONG = {-1, 5, Integer.MIN_VALUE, Integer.MAX_VALUE};
    private static final Due due = new Due();

    public static void main(String[] args) {
        twoAtOnePot();
        kingHimselfRises();
        leastBits();
        lowestIsLeftOut();
        halfIsNotEnough();
        none();
        wrongNumbers();
        due.finish();
    }

    /** Who is KING gets 5, the other one nothing: one of more SPOONS takes the crown. */
    private static void twoAtOnePot() {
        LadleKings x = due.told("seats 2;pot 0 5;turn 2;flip;spoons 1 2;");
        String before = Due.stateOf(x);
        due.is("against 0: c", x.coup(0, 0, 0), 1);
        due.is("against 0: bits", x.coup(0, 0, 1), 2);
        due.is("against 1: too few SPOONS", x.coup(1, 0, 0), -4);
        due.is("against 1: bits", x.coup(1, 0, 1), -4);
        due.is("firm is 1", x.firm(0), 2);
        due.is("by flip the KING gets nothing: nobody wants it", x.coup(0, 1, 0), -4);
        due.is("firm are both", x.firm(1), 3);
        due.isTrue("asking changes nothing", before.equals(Due.stateOf(x)));
        x.spoon(1, 1);
        due.is("firm alone", due.told("seats 2;pot 0 5;turn 2;spoons 1 2;").firm(0), 2);
        due.is("half is not more than half", x.coup(0, 0, 0), -4);
        due.is("firm are both", x.firm(0), 3);
    }

    /**
     * THE POT behind the STIR is 1 2 3. Were 0 KING: 0 gets 3, 1 gets 1, 2 gets 2. Were 1 KING: 1 gets 3, 2 gets 1,
     * 0 gets 2. Were 2 KING: 2 gets 3, 0 gets 1, 1 gets 2. By the other STIR it is 3 2 1: so the KING gets least.
     */
    private static void kingHimselfRises() {
        LadleKings x = due.told("seats 3;pot 1 2 3;turn 3;flip;");
        due.is("against 0: by 1 he alone rises, by 2 both 1 and 2", x.coup(0, 0, 0), 2);
        due.is("their bits", x.coup(0, 0, 1), 6);
        due.is("against 1: 0, with 2", x.coup(1, 0, 0), 0);
        due.is("their bits", x.coup(1, 0, 1), 5);
        due.is("against 2: 1, with 0", x.coup(2, 0, 0), 1);
        due.is("their bits", x.coup(2, 0, 1), 3);
        due.is("firm is none", x.firm(0), 0);
        due.is("by flip c himself does not rise", x.coup(0, 1, 0), -4);
        due.is("firm are all", x.firm(1), 7);
        // THE POT stays 3 1 2. As 0 is a FRIEND of 1, he leaves the top to 2, were 1 KING.
        LadleKings y = due.told("seats 3;pot 3 1 2;friend 1 0;turn 3;spoons 1 9;");
        due.is("0 as KING gets", y.bowl(0, 0, 0), 2);
        due.is("2 as KING gets", y.bowl(2, 2, 0), 2);
        due.is("1, were 2 KING", y.bowl(2, 1, 0), 1);
        due.is("1 as KING gets", y.bowl(1, 1, 0), 2);
        due.is("2, were 1 KING", y.bowl(1, 2, 0), 3);
        due.is("against 2: 1 and 2 rise, 1 is enough", y.coup(2, 0, 1), 2);
        y.spoon(1, 1);
        due.is("against 2: the KING himself is with him", y.coup(2, 0, 0), 1);
        due.is("against 2: bits", y.coup(2, 0, 1), 6);
    }

    /** Against 0, were 3 KING, 1, 2, 3 and no other rise: which of them is told by SPOONS. */
    private static void leastBits() {
        LadleKings x = due.told("seats 4;pot 1 2 3 4;turn 4;spoons 3 2;spoons 0 1;");
        due.is("by 1 he alone rises, by 2 he and 1, by 3 all others", x.coup(0, 0, 0), 3);
        due.is("1 and 3 have three of five", x.coup(0, 0, 1), 10);
        x.spoon(3, 9);
        due.is("3 alone", x.coup(0, 0, 1), 8);
        x.spoon(3, 1);
        x.spoon(0, 2);
        due.is("all three are needed", x.coup(0, 0, 1), 14);
        x.spoon(2, 2);
        due.is("1, 2, 3 of six: more than three", x.coup(0, 0, 1), 14);
        x.spoon(1, 2);
        due.is("1 and 2 are enough for 2", x.coup(0, 0, 0), 2);
        due.is("their bits", x.coup(0, 0, 1), 6);
    }

    /** Against 1, were 0 KING, all others rise: 0 leads, so he stays; against 3, were 2 KING, 0 can be left out. */
    private static void lowestIsLeftOut() {
        LadleKings x = due.told("seats 4;pot 1 2 3 4;turn 4;spoons 2 9;");
        due.is("against 1: c", x.coup(1, 0, 0), 0);
        due.is("against 1: bits", x.coup(1, 0, 1), 5);
        x.spoon(3, 9);
        due.is("against 1: 0 with 3 are not enough without 2", x.coup(1, 0, 1), 13);
        LadleKings y = due.told("seats 4;pot 1 2 3 4;turn 4;spoons 2 9;");
        due.is("against 3: c", y.coup(3, 0, 0), 2);
        due.is("against 3: 2 alone", y.coup(3, 0, 1), 4);
    }

    private static void halfIsNotEnough() {
        LadleKings x = due.told("seats 4;pot 1 2 3 4;turn 4;spoons 0 3;");
        due.is("1, 2, 3 have three of six", x.coup(0, 0, 0), -4);
        due.is("against 0 there is none", x.firm(0), 1);
        x.spoon(1, 2);
        due.is("four of seven", x.coup(0, 0, 1), 14);
    }

    /** Nobody rises where all LAYERS are alike. */
    private static void none() {
        LadleKings x = due.told("seats 5;pot 4 4 4 4 4;flip;spoons 2 9;");
        for (int k = 0; k < 5; k++) {
            due.is("alike", x.coup(k, 0, 0), -4);
            due.is("alike", x.coup(k, 0, 1), -4);
        }
        due.is("all are firm", x.firm(0), 31);
    }

    private static void wrongNumbers() {
        LadleKings x = due.told("seats 5;pot 4 4 4 4 4;flip;");
        for (int bad : WRONG) {
            due.is("coup k", x.coup(bad, 0, 0), -1);
            due.is("coup r", x.coup(0, bad, 0), -1);
            due.is("coup what", x.coup(0, 0, bad), -1);
            due.is("firm r", x.firm(bad), -1);
        }
        due.is("coup r", x.coup(0, 1, 0), -1);
        due.is("coup what", x.coup(0, 0, 2), -1);
        due.is("firm r", x.firm(1), -1);
        due.is("no STIRS", new LadleKings().coup(0, 0, 0), -1);
        due.is("no STIRS", new LadleKings().firm(0), -1);
    }
}
