import java.nio.charset.StandardCharsets;
import java.util.function.IntToLongFunction;

/** What the tests share: answers that are due, texts that are fed. */
final class Due {
    private int asked = 0;
    private int wrong = 0;

    void is(String call, long got, long want) {
        asked++;
        if (got != want) {
            wrong++;
            System.out.println(call + " answered " + got + ", due is " + want);
        }
    }

    void isTrue(String claim, boolean holds) {
        is(claim, holds ? 1 : 0, 1);
    }

    /** Numbers from low to high are taken; one beyond either bound, and those far off, are refused. */
    void bounds(String call, IntToLongFunction answer, int low, long wantLow, int high, long wantHigh, long refused) {
        is(call + " at " + low, answer.applyAsLong(low), wantLow);
        is(call + " at " + high, answer.applyAsLong(high), wantHigh);
        int[] beyond = {low - 1, high + 1, Integer.MIN_VALUE, Integer.MAX_VALUE};
        for (int v : beyond) {
            is(call + " at " + v, answer.applyAsLong(v), refused);
        }
    }

    /** Ends the test: exit code 1 if an answer was wrong. */
    void finish() {
        System.out.println(asked + " asked, " + wrong + " wrong");
        if (wrong != 0) {
            System.exit(1);
        }
    }

    /** A new object that was told a text, which must be taken. */
    LadleKings told(String text) {
        LadleKings x = new LadleKings();
        long answer = tell(x, text);
        isTrue("text '" + text + "' is taken (" + answer + ")", answer >= 0);
        return x;
    }

    static int tell(LadleKings x, String text) {
        feedAll(x, text);
        return x.text();
    }

    static void feedAll(LadleKings x, String text) {
        byte[] bytes = text.getBytes(StandardCharsets.ISO_8859_1);
        int before = x.count(2);
        for (int i = 0; i < bytes.length; i += 8) {
            x.feed(eight(bytes, i));
        }
        x.end(before + bytes.length);
    }

    private static long eight(byte[] bytes, int from) {
        long v = 0;
        for (int i = from; i < from + 8; i++) {
            v = (v << 8) | (i < bytes.length ? bytes[i] & 255 : ' ');
        }
        return v;
    }

    /** All that can be asked of an object without changing it, as one text. */
    static String stateOf(LadleKings x) {
        StringBuilder all = new StringBuilder();
        for (int what = 0; what <= 4; what++) {
            all.append(x.rule(what)).append(' ').append(x.count(what)).append(' ');
        }
        for (int i = 0; i < 7; i++) {
            all.append("| ").append(x.pot(i)).append(' ').append(x.could(i)).append(' ');
            for (int what = 0; what < 4; what++) {
                all.append(x.one(i, what)).append(' ');
            }
            for (int r = 0; r < 5; r++) {
                all.append(x.stir(r, i)).append(' ');
            }
        }
        all.append("| ").append(x.histories(0)).append(' ').append(x.hungry()).append(' ').append(x.torn());
        return all.toString();
    }
}
