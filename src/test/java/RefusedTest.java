import java.lang.reflect.Method;
import java.util.HashMap;
import java.util.Map;
import java.util.function.Supplier;

/**
 * What is refused changes nothing: of two objects with the same calls behind them one gets the refused call, too;
 * whatever is asked of both from then on is answered alike. What is only asked changes nothing, either.
 */
public final class RefusedTest {
    private static final String MIN = "-2147483648", MAX = "2147483647";
    private static final Map<String, Method> FACE = new HashMap<>();
    private static final Due due = new Due();

    public static void main(String[] args) throws Exception {
        for (Method m : LadleKings.class.getDeclaredMethods()) {
            FACE.put(m.getName(), m);
        }
        textAndChangesRefused();
        daysAndLuckRefused();
        seenRefused();
        imagesAndSheetsRefused();
        bareRefused();
        fullRefused();
        textsRefused();
        askedCalls();
        probesSeeChanges();
        due.finish();
    }

    /** A call told as a text: its name and its numbers. */
    private static long call(LadleKings x, String text) throws Exception {
        String[] words = text.split(" ");
        Method m = FACE.get(words[0]);
        Object[] arguments = new Object[words.length - 1];
        for (int i = 0; i < arguments.length; i++) {
            Class<?> type = m.getParameterTypes()[i];
            String word = words[i + 1];
            if (type == long.class) {
                arguments[i] = Long.parseLong(word);
            } else if (type == boolean.class) {
                arguments[i] = Boolean.parseBoolean(word);
            } else {
                arguments[i] = Integer.parseInt(word);
            }
        }
        return ((Number) m.invoke(x, arguments)).longValue();
    }

    /** Four SEATS, three STIRS, two DAYS that went, two SEEN, IMAGE 0, three SHEETS, both FAULTS, 20 bytes. */
    private static LadleKings rich() {
        LadleKings x = due.told("pot 1 2 3 4;bone 3;king 1;friend 0 2;friend 1 0;spoons 2 5;need 1 3;need 3 2;"
            + "turn 1;flip;swap 0 2;");
        x.day(0);
        x.see(x.next(x.rule(2), 2));
        x.keep(0);
        x.day(1);
        x.forget(0);
        int next = x.next(x.rule(2), 0);
        x.see(next);
        x.see(next);
        x.sheet(0, 0, 3);
        x.lay(0, 1, 2);
        x.lay(0, 2, 3);
        x.sheet(1, 1, 2);
        x.lay(1, 0, 1);
        x.sheet(3, 2, 0);
        x.read(3, 2, 0, 1);
        Due.tell(x, "king 7;");
        Due.feedAll(x, "seats 3; pot 7;flip;");
        return x;
    }

    /** No STIRS, two SEEN. */
    private static LadleKings bare() {
        LadleKings x = new LadleKings();
        x.fill(2, 5);
        x.crown(2);
        x.see(1);
        x.see(3);
        return x;
    }

    /** 320 bytes, six SEEN, 999 DAYS. */
    private static LadleKings full() {
        LadleKings x = due.told("seats 2;pot 3 4;need 0 2;turn 1;turn 2;");
        x.sheet(0, 0, 21);
        for (int i = 0; i < 49; i++) {
            x.read(0, 0, 0, 20);
        }
        x.read(0, 0, 0, 19);
        x.keep(1);
        for (int i = 0; i < 6; i++) {
            x.see(x.next(x.rule(2), 1));
        }
        Due.feedAll(x, "flip;" + " ".repeat(305) + "bone 1;   ");
        return x;
    }

    private static void refused(Supplier<LadleKings> made, long answer, String... calls) throws Exception {
        for (String text : calls) {
            for (int probe = 0; probe < PROBES; probe++) {
                LadleKings x = made.get();
                due.is(text, call(x, text), answer);
                isAsTwin(text, probe, x, made.get());
            }
        }
    }

    private static void isAsTwin(String text, int probe, LadleKings x, LadleKings twin) {
        String want = shown(probe, twin);
        String got = shown(probe, x);
        due.isTrue(text + " changed what probe " + probe + " shows:\n" + got + "\n" + want, got.equals(want));
    }

    private static final int PROBES = 6;

    /** What later calls show; some of these change the object, so each is asked of one of its own. */
    private static String shown(int probe, LadleKings x) {
        switch (probe) {
            case 0: return Due.stateOf(x) + " " + x.fault();
            case 1: return imagesOf(x);
            case 2: return x.text() + " " + x.fault() + " " + Due.stateOf(x);
            case 3: return sheetsOf(x);
            case 4: return plansOf(x);
            default: return daysOf(x);
        }
    }

    private static String imagesOf(LadleKings x) {
        return x.back(0) + " " + Due.stateOf(x) + " " + x.back(1) + " " + Due.stateOf(x);
    }

    /** As its CELLS tell STIRS, they are known by the DAYS that go. */
    private static String sheetsOf(LadleKings x) {
        StringBuilder all = new StringBuilder();
        all.append(x.back(0)).append(' ').append(x.keep(0));
        for (int k = 0; k < 4; k++) {
            for (int lane = 0; lane < 3; lane++) {
                for (int i = 0; i < 5; i++) {
                    all.append(' ').append(x.read(k, lane, i, 1)).append(' ').append(x.torn());
                    all.append(' ').append(x.rule(4)).append(' ').append(x.rule(3));
                }
            }
        }
        return all.append(' ').append(x.read(0, 0, 20, 1)).append(x.read(0, 0, 21, 1)).toString();
    }

    private static String plansOf(LadleKings x) {
        StringBuilder all = new StringBuilder();
        for (int p = 0; p < 4; p++) {
            all.append(' ').append(x.chance(p, 3, 0)).append(' ').append(x.chance(p, 10, 1));
            all.append(' ').append(x.raise(p, 0)).append(' ').append(x.raise(p, 10));
            all.append(' ').append(x.firm(p)).append(' ').append(x.coup(p, 0, 0)).append(' ').append(x.coup(p, 1, 1));
        }
        for (int i = 0; i < 4; i++) {
            all.append(' ').append(x.reign(10, 10 + i)).append(' ').append(x.fair(4, 10 + i));
            all.append(' ').append(x.histories(10 + i)).append(' ').append(x.lasts(i, 0));
            for (int k = 0; k < 4; k++) {
                all.append(' ').append(x.bowl(k, i, 0)).append(' ').append(x.ladle(k, i, 1)).append(x.next(k, 1));
            }
        }
        return all.append(' ').append(x.blind(2, 5, 0)).toString();
    }

    private static String daysOf(LadleKings x) {
        StringBuilder all = new StringBuilder();
        for (int i = 0; i < 6; i++) {
            all.append(x.day(i % 3)).append(' ').append(x.see(i % 4)).append(' ');
        }
        all.append(x.feed(0L)).append(' ');
        return all.append(Due.stateOf(x)).toString();
    }

    /** Promises 3, 6 to 13. */
    private static void textAndChangesRefused() throws Exception {
        refused(RefusedTest::rich, -1, "end -1", "end 21", "end 320", "end 321", "end " + MIN, "end " + MAX,
            "rule -1", "rule 5", "rule " + MIN, "rule " + MAX, "pot -1", "pot 4", "pot " + MIN, "pot " + MAX,
            "one -1 0", "one 4 0", "one 0 -1", "one 0 4", "one " + MIN + " " + MAX,
            "stir -1 0", "stir 3 0", "stir 0 -1", "stir 0 4", "stir " + MAX + " " + MIN);
        refused(RefusedTest::rich, -1, "befriend -1 0 true", "befriend 4 0 true", "befriend 0 -1 true",
            "befriend 0 4 true", "befriend 0 0 true", "befriend 3 3 true", "befriend 3 3 false", "befriend 0 32 true",
            "befriend 0 34 false", "befriend 1 32 false", "befriend " + MIN + " 0 true", "befriend 0 " + MAX + " true",
            "befriend -1 -1 true", "befriend 4 4 false");
        refused(RefusedTest::rich, -1, "spoon 0 0", "spoon 0 10", "spoon 0 -1", "spoon -1 1", "spoon 4 1",
            "spoon 0 " + MIN, "spoon 0 " + MAX, "spoon " + MIN + " 5", "spoon " + MAX + " 5",
            "crown -1", "crown 4", "crown " + MIN, "crown " + MAX,
            "fill 0 -1", "fill 0 10", "fill -1 1", "fill 4 1", "fill 0 " + MIN, "fill 0 " + MAX, "fill " + MIN + " 5",
            "fill " + MAX + " 5");
    }

    /** Promises 14 to 24. */
    private static void daysAndLuckRefused() throws Exception {
        refused(RefusedTest::rich, -1, "bowl -1 0 0", "bowl 4 0 0", "bowl 0 -1 0", "bowl 0 4 0", "bowl 0 0 -1",
            "bowl 0 0 3", "ladle -1 0 0", "ladle 4 0 0", "ladle 0 -1 0", "ladle 0 4 0", "ladle 0 0 -1", "ladle 0 0 3",
            "next -1 0", "next 4 0", "next 0 -1", "next 0 3", "day -1", "day 3", "day " + MIN, "day " + MAX);
        refused(RefusedTest::rich, -1, "chance -1 1 0", "chance 4 1 0", "chance 0 -1 0", "chance 0 11 0",
            "chance 0 1 -1", "chance 0 1 2", "chance 0 " + MAX + " 0", "lasts -1 0", "lasts 11 0", "lasts 1 -1",
            "lasts 1 2", "lasts " + MAX + " 0", "reign 0 0", "reign 11 0", "reign -1 0", "reign 1 -1", "reign 1 1",
            "reign 1 9", "reign 1 20", "reign 1 " + MAX, "raise -1 0", "raise 4 0", "raise 0 -1", "raise 0 1",
            "raise 0 9", "raise 0 20", "raise 0 " + MIN);
        refused(RefusedTest::rich, -1, "coup -1 0 0", "coup 4 0 0", "coup 0 -1 0", "coup 0 3 0", "coup 0 0 -1",
            "coup 0 0 2", "firm -1", "firm 3", "firm " + MIN, "firm " + MAX);
        refused(RefusedTest::rich, -4, "reign 1 11", "reign 9 19", "raise 2 19");
    }

    /** Promises 25 to 30. */
    private static void seenRefused() throws Exception {
        refused(RefusedTest::rich, -1, "see -1", "see 4", "see " + MIN, "see " + MAX, "forget -1", "forget 3",
            "forget 6", "forget " + MIN, "forget " + MAX, "histories -1", "histories 1", "histories 9",
            "histories 16", "histories " + MIN, "could -1", "could 2", "could 6", "could " + MAX);
        refused(RefusedTest::rich, -4, "histories 12", "histories 15", "fair 1 11", "fair 3 13");
        refused(RefusedTest::rich, -1, "blind -1 1 0", "blind 2 1 0", "blind 0 0 0", "blind 0 13 0", "blind 0 1 -1",
            "blind 0 1 2", "blind 13 13 0", "blind " + MAX + " " + MAX + " 0", "fair 0 0", "fair 5 0", "fair 1 -1",
            "fair 1 1", "fair 1 9", "fair 1 14", "fair " + MAX + " 0", "fair 4 " + MAX);
    }

    /** Promises 31 to 37. */
    private static void imagesAndSheetsRefused() throws Exception {
        refused(RefusedTest::rich, -1, "keep -1", "keep 2", "keep " + MIN, "keep " + MAX, "back -1", "back 2",
            "back " + MIN, "back " + MAX);
        refused(RefusedTest::rich, -2, "back 1");
        refused(RefusedTest::rich, -1, "sheet -1 0 1", "sheet 4 0 1", "sheet 0 -1 1", "sheet 0 3 1", "sheet 0 0 41",
            "sheet 0 1 " + MAX, "sheet 4 0 -1", "sheet 0 3 -1", "sheet 0 -1 -1", "sheet -1 0 41");
        refused(RefusedTest::rich, -14, "sheet 0 0 -1", "sheet 0 1 -1", "sheet 1 2 -40", "sheet 2 0 -1", "sheet 3 2 " + MIN);
        refused(RefusedTest::rich, -1, "lay -1 0 0", "lay 4 0 0", "lay " + MIN + " 0 0", "lay " + MAX + " 0 0");
        refused(RefusedTest::rich, -11, "lay 2 0 1", "lay 2 -1 1", "lay 2 40 1");
        refused(RefusedTest::rich, -12, "lay 0 -1 1", "lay 0 3 1", "lay 1 2 1", "lay 3 0 1", "lay 0 39 1",
            "lay 0 40 1", "lay 0 " + MIN + " 1", "lay 0 " + MAX + " 1");
        refused(RefusedTest::rich, -1, "read -1 0 0 1", "read 4 0 0 1", "read 0 -1 0 1", "read 0 3 0 1",
            "read 0 0 0 -1", "read 0 0 0 21", "read 0 0 0 " + MAX, "read 4 0 0 0", "read 0 3 0 0");
        refused(RefusedTest::rich, -20, "read 0 0 2 1", "read 0 0 2 20");
        refused(RefusedTest::rich, -21, "read 0 0 1 2", "read 0 0 1 3");
        refused(RefusedTest::rich, -22, "read 0 0 0 3", "read 0 0 0 4", "read 0 0 0 20");
        refused(RefusedTest::rich, -1, "count -1", "count 5", "count " + MIN, "count " + MAX);
    }

    /** STATE: there are no STIRS; and no STIR is one that there is. */
    private static void bareRefused() throws Exception {
        refused(RefusedTest::bare, -2, "chance 0 0 0", "chance 3 10 1", "lasts 0 0", "lasts 10 1", "reign 1 0",
            "reign 10 19", "raise 0 0", "raise 2 0", "raise 3 19", "fair 1 0", "fair 4 13", "fair 1 13", "back 0", "back 1");
        refused(RefusedTest::bare, -1, "day 0", "bowl 0 0 0", "ladle 0 0 0", "next 0 0", "coup 0 0 0", "firm 0",
            "stir 0 0", "end 1", "could 2", "forget 3");
        refused(RefusedTest::bare, -4, "histories 10", "histories 11", "count 3");
        refused(RefusedTest::bare, -11, "lay 0 0 0", "lay 3 0 0");
    }

    /** FULL: THE TAPE, SEEN, DAYS. */
    private static void fullRefused() throws Exception {
        refused(RefusedTest::full, -3, "feed 0", "feed -1", "feed 7380389820107222121", "see 0", "see 1", "day 0", "day 1");
        refused(RefusedTest::full, -1, "see 2", "see -1", "day 2", "day -1", "end 321", "end -1", "forget 7");
        refused(RefusedTest::full, -20, "read 0 0 0 1", "read 0 0 0 20", "read 0 0 20 20");
    }

    /** A FAULT of each kind: that which was told stays; THE TAPE is empty, fault() tells of it. */
    private static void textsRefused() {
        String[] texts = {"seats 7;king 3;flip;.", "seats 2;flip", "seats 7;pot 9 9;spoons 0 0;",
            "king 2;pot 9;bone 1;bone 1;", "turn 1;turn 2;turn 3;turn 4;turn 5;turn 6;", "seats 2;friend 0 1;king 2;"};
        for (int i = 0; i < texts.length; i++) {
            for (int probe = 0; probe < PROBES; probe++) {
                LadleKings x = rich();
                x.end(0);
                due.isTrue("a FAULT", Due.tell(x, texts[i]) <= -10);
                due.is("fault", x.fault(), i + 1);
                due.is("bytes", x.count(2), 0);
                LadleKings twin = rich();
                twin.end(0);
                Due.tell(twin, ".");
                if (probe != 0) {
                    isAsTwin(texts[i], probe, x, twin);
                } else {
                    due.isTrue("what was told stays", Due.stateOf(x).equals(Due.stateOf(twin)));
                }
            }
        }
        LadleKings x = rich();
        String before = Due.stateOf(x);
        String images = imagesOf(rich());
        x.end(0);
        Due.tell(x, "seats 7;pot 1 2 3 4 5 6 7 8;");
        Due.feedAll(x, "seats 3; pot 7;flip;");
        due.isTrue("all but THE TAPE is as before", before.equals(Due.stateOf(x)));
        due.isTrue("IMAGES are as before", images.equals(imagesOf(x)));
    }

    /** What is only asked, with numbers that are right: it changes nothing, whatever it answers. */
    private static void askedCalls() throws Exception {
        String[] calls = {"fault", "rule 0", "rule 4", "pot 0", "pot 3", "one 0 0", "one 3 3", "stir 0 0", "stir 2 3",
            "bowl 0 1 0", "bowl 3 0 2", "ladle 0 1 0", "ladle 3 3 2", "next 0 0", "next 3 2", "hungry", "chance 0 10 0",
            "chance 3 10 1", "lasts 10 0", "reign 10 0", "reign 10 10", "raise 0 0", "raise 3 10", "coup 0 0 0",
            "coup 3 2 1", "firm 0", "firm 2", "histories 0", "histories 10", "histories 11", "could 0", "could 1",
            "blind 6 12 0", "fair 4 0", "fair 4 13", "torn", "count 0", "count 1", "count 2", "count 3", "count 4",
            "end 20", "forget 2"};
        for (String text : calls) {
            for (int probe = 0; probe < PROBES; probe++) {
                LadleKings x = rich();
                call(x, text);
                isAsTwin(text, probe, x, rich());
            }
        }
    }

    private static void seesChange(String text, int... probes) throws Exception {
        for (int probe : probes) {
            LadleKings x = rich();
            due.isTrue(text + " is taken", call(x, text) >= 0);
            due.isTrue("probe " + probe + " shows " + text, !shown(probe, x).equals(shown(probe, rich())));
        }
    }

    /** The probes are worth something: each call that is taken is shown by one of them. */
    private static void probesSeeChanges() throws Exception {
        seesChange("feed 0", 0, 2);
        seesChange("end 19", 0, 2);
        seesChange("text", 0);
        seesChange("befriend 3 0 true", 0);
        seesChange("befriend 0 2 false", 0);
        seesChange("spoon 3 2", 0);
        seesChange("crown 0", 0);
        seesChange("fill 3 9", 0);
        seesChange("day 0", 0);
        seesChange("see 0", 0);
        seesChange("forget 1", 0);
        seesChange("keep 0", 1);
        seesChange("keep 1", 1);
        seesChange("back 0", 0);
        seesChange("sheet 0 0 3", 3);
        seesChange("sheet 1 1 3", 3);
        seesChange("sheet 1 0 2", 3);
        seesChange("sheet 2 0 0", 3);
        seesChange("lay 0 0 1", 3);
        seesChange("lay 1 1 2", 3);
        seesChange("read 0 0 0 2", 0);
        seesChange("read 0 1 0 2", 0);
    }
}
