import java.util.function.IntToLongFunction;

/** Promise by promise (2 to 30): each number at its bounds and one beyond them, and which answer comes first. */
public final class EdgesTest {
    private static final String[] STIRS = {"", "turn 1;", "flip;", "swap 0 1;", "lift 1;", "turn 2;"};
    private static final Due due = new Due();

    public static void main(String[] args) {
        feedEdges();
        endEdges();
        textEdges();
        faultEdges();
        ruleEdges();
        potEdges();
        oneEdges();
        stirEdges();
        befriendEdges();
        spoonEdges();
        crownEdges();
        fillEdges();
        servedEdges();
        dayEdges();
        hungryEdges();
        luckEdges();
        reignEdges();
        raiseEdges();
        coupEdges();
        firmEdges();
        seeEdges();
        forgetEdges();
        historiesEdges();
        couldEdges();
        blindEdges();
        fairEdges();
        due.finish();
    }

    /** A table of so many SEATS, with so many STIRS, on whose LAYERS there are 1, 2 .. PIECES. */
    private static LadleKings table(int seats, int stirs) {
        StringBuilder text = new StringBuilder("seats " + seats + ";pot");
        for (int i = 1; i <= seats; i++) {
            text.append(' ').append(i);
        }
        text.append(';');
        for (int r = 1; r <= stirs; r++) {
            text.append(STIRS[r]);
        }
        return due.told(text.toString());
    }

    /** Promise 2: as long as 320 are not passed, at each length that eight more can meet. */
    private static void feedEdges() {
        for (int have = 305; have <= 320; have++) {
            LadleKings x = new LadleKings();
            for (int i = 0; i < 40; i++) {
                x.feed(0x2020202020202020L);
            }
            x.end(have);
            due.is("feed at " + have, x.feed(0x2020202020202020L), have <= 312 ? have + 8 : -3);
            due.is("bytes", x.count(2), have <= 312 ? have + 8 : have);
        }
        LadleKings empty = new LadleKings();
        due.is("feed at 0", empty.feed(0L), 8);
        long[] values = {0L, -1L, Long.MIN_VALUE, Long.MAX_VALUE, 0x6100000000000000L, 0x0000000000000061L};
        int[] faults = {1, 1, 1, 1, 2, 1};
        for (int i = 0; i < values.length; i++) {
            LadleKings x = new LadleKings();
            due.is("feed", x.feed(values[i]), 8);
            due.is("its highest byte comes first", x.text(), -10);
            due.is("FAULT", x.fault(), faults[i]);
        }
        LadleKings order = new LadleKings();
        order.feed(0x70_6f_74_20_31_20_32_20L);
        order.feed(0x33_20_34_3b_6b_69_6e_67L);
        order.feed(0x20_33_3b_20_20_20_20_20L);
        due.is("eight behind eight: pot 1 2 3 4;king 3;", order.text(), 2);
        for (int i = 0; i < 4; i++) {
            due.is("PIECES", order.pot(i), i + 1);
        }
        due.is("THE KING", order.rule(2), 3);
    }

    /** Promise 3: 0 to how many there are. */
    private static void endEdges() {
        for (int feeds = 0; feeds <= 40; feeds += 8) {
            int bytes = 8 * feeds;
            due.bounds("end of " + bytes, n -> {
                LadleKings x = new LadleKings();
                for (int i = 0; i < bytes; i += 8) {
                    x.feed(0x2020202020202020L);
                }
                int answer = x.end(n);
                due.is("bytes", x.count(2), answer == -1 ? bytes : n);
                return answer;
            }, 0, bytes, bytes, bytes, -1);
        }
        LadleKings x = new LadleKings();
        x.feed(0x666c69703b666c69L);
        due.is("cut", x.end(5), 8);
        due.is("what was cut does not come back", x.end(8), -1);
        due.is("feed goes on there", x.feed(0x706f7420393b2020L), 13);
        due.is("flip;pot 9;", x.text(), 2);
        due.is("PIECES", x.pot(0), 9);
    }

    /** Promise 4: empty then, by a FAULT, too. */
    private static void textEdges() {
        LadleKings x = new LadleKings();
        due.is("an empty TAPE", x.text(), 0);
        due.is("once more", x.text(), 0);
        due.is("taken", Due.tell(x, "seats 3;"), 1);
        due.is("empty then", x.count(2), 0);
        due.is("by a FAULT", Due.tell(x, "seats 5;."), -18);
        due.is("empty, too", x.count(2), 0);
        due.is("that which was told stays", x.rule(0), 3);
        due.is("an empty TAPE tells all", x.text(), 0);
        due.is("as at first", x.rule(0), 4);
        due.is("the FAULT at 0", Due.tell(x, ".seats 5;"), -10);
        due.is("behind it all is new", Due.tell(x, "seats 5;"), 1);
        due.is("SEATS", x.rule(0), 5);
    }

    /** Promise 5: of the latest text() alone. */
    private static void faultEdges() {
        String[] texts = {".", ";", "king 7;", "swap 1 1;", "flip;flip;flip;flip;flip;flip;", "king 4;"};
        LadleKings x = new LadleKings();
        due.is("no text yet", x.fault(), 0);
        for (int i = 0; i < texts.length; i++) {
            due.isTrue("a FAULT", Due.tell(x, texts[i]) <= -10);
            due.is("fault", x.fault(), i + 1);
            due.is("fault again", x.fault(), i + 1);
            x.feed(0L);
            x.end(0);
            x.rule(-1);
            due.is("other calls leave it", x.fault(), i + 1);
        }
        x.text();
        due.is("a text that is taken", x.fault(), 0);
    }

    /** Promise 6. */
    private static void ruleEdges() {
        due.bounds("rule", what -> due.told("seats 7;bone 5;flip;").rule(what), 0, 7, 4, 5, -1);
        LadleKings x = table(7, 5);
        x.crown(6);
        int[] want = {7, 5, 6, 0, 0};
        for (int what = 0; what <= 4; what++) {
            due.is("rule " + what, x.rule(what), want[what]);
        }
    }

    /** Promise 7: for each count of SEATS. */
    private static void potEdges() {
        for (int seats = 2; seats <= 7; seats++) {
            int s = seats;
            due.bounds("pot of " + s, i -> table(s, 1).pot(i), 0, 1, s - 1, s, -1);
        }
    }

    /** Promise 8. */
    private static void oneEdges() {
        for (int seats = 2; seats <= 7; seats++) {
            int s = seats;
            due.bounds("one of " + s, p -> table(s, 1).one(p, 1), 0, 1, s - 1, 1, -1);
        }
        for (int p = 0; p < 4; p++) {
            int q = p;
            due.bounds("one what", what -> due.told("spoons " + q + " 8;need " + q + " 7;").one(q, what), 0, 0, 3, 0, -1);
        }
        LadleKings x = due.told("seats 7;friend 3 0;friend 3 1;friend 3 2;friend 3 4;friend 3 5;friend 3 6;");
        due.is("all others", x.one(3, 0), 127 - 8);
        due.is("none", x.one(0, 0), 0);
    }

    /** Promise 9: no STIR without one, five at most; PLACES of each count of SEATS. */
    private static void stirEdges() {
        due.is("no STIRS", table(4, 0).stir(0, 0), -1);
        for (int stirs = 1; stirs <= 5; stirs++) {
            int n = stirs;
            long last = new int[] {0, 1, 3, 1, 1, 2}[n];
            due.bounds("stir of " + n, r -> table(4, n).stir(r, 0), 0, 1, n - 1, last, -1);
        }
        for (int seats = 2; seats <= 7; seats++) {
            int s = seats;
            due.bounds("stir, PLACE of " + s, i -> table(s, 1).stir(0, i), 0, 1, s - 1, 0, -1);
        }
    }

    /** Promise 10: SEATS that there are, unlike; whether he was. */
    private static void befriendEdges() {
        for (int seats = 2; seats <= 7; seats++) {
            int s = seats;
            due.bounds("befriend p", p -> table(s, 0).befriend(p, p == 0 ? 1 : 0, true), 0, 0, s - 1, 0, -1);
            due.bounds("befriend friend", f -> table(s, 0).befriend(f == 0 ? 1 : 0, f, true), 0, 0, s - 1, 0, -1);
            for (int p = 0; p < s; p++) {
                LadleKings x = table(s, 0);
                for (int friend = 0; friend < s; friend++) {
                    due.is("was not", x.befriend(p, friend, true), p == friend ? -1 : 0);
                    due.is("was", x.befriend(p, friend, true), p == friend ? -1 : 1);
                }
                due.is("FRIENDS", x.one(p, 0), (1 << s) - 1 - (1 << p));
                for (int friend = 0; friend < s; friend++) {
                    due.is("was", x.befriend(p, friend, false), p == friend ? -1 : 1);
                    due.is("was not", x.befriend(p, friend, false), p == friend ? -1 : 0);
                }
                due.is("none", x.one(p, 0), 0);
            }
        }
    }

    /** Promise 11: 1 to 9. */
    private static void spoonEdges() {
        due.bounds("spoon", v -> due.told("spoons 3 5;").spoon(3, v), 1, 5, 9, 5, -1);
        for (int seats = 2; seats <= 7; seats++) {
            int s = seats;
            due.bounds("spoon of", p -> table(s, 0).spoon(p, 2), 0, 1, s - 1, 1, -1);
        }
        LadleKings x = new LadleKings();
        for (int v = 1; v <= 9; v++) {
            due.is("spoon", x.spoon(2, v), Math.max(1, v - 1));
            due.is("SPOONS", x.one(2, 1), v);
        }
    }

    /** Promise 12. */
    private static void crownEdges() {
        for (int seats = 2; seats <= 7; seats++) {
            int s = seats;
            due.bounds("crown of " + s, p -> table(s, 0).crown(p), 0, 0, s - 1, 0, -1);
            LadleKings x = table(s, 0);
            for (int p = 0; p < s; p++) {
                due.is("who was", x.crown(p), Math.max(0, p - 1));
                due.is("THE KING", x.rule(2), p);
            }
        }
    }

    /** Promise 13: 0 to 9. */
    private static void fillEdges() {
        due.bounds("fill", v -> table(4, 0).fill(2, v), 0, 3, 9, 3, -1);
        for (int seats = 2; seats <= 7; seats++) {
            int s = seats;
            due.bounds("fill of " + s, i -> table(s, 0).fill(i, 9), 0, 1, s - 1, s, -1);
        }
        LadleKings x = new LadleKings();
        for (int v = 0; v <= 9; v++) {
            due.is("fill", x.fill(3, v), Math.max(0, v - 1));
            due.is("PIECES", x.pot(3), v);
        }
    }

    /** Promises 14, 15, 16: by turn 1 the last LAYER is the top; the KING gets the one ahead of it. */
    private static void servedEdges() {
        for (int seats = 2; seats <= 7; seats++) {
            int s = seats;
            due.bounds("bowl k", k -> table(s, 1).bowl(k, k, 0), 0, s - 1, s - 1, s - 1, -1);
            due.bounds("bowl p", p -> table(s, 1).bowl(0, p, 0), 0, s - 1, s - 1, s == 2 ? 2 : s - 2, -1);
            due.bounds("ladle k", k -> table(s, 1).ladle(k, k, 0), 0, s - 1, s - 1, s - 1, -1);
            due.bounds("ladle p", p -> table(s, 1).ladle(0, p, 0), 0, s - 1, s - 1, s - 2, -1);
            due.bounds("next k", k -> table(s, 1).next(k, 0), 0, s == 2 ? 0 : 2, s - 1, 1, -1);
        }
        for (int stirs = 1; stirs <= 5; stirs++) {
            int n = stirs;
            // The lowest LAYER of 1 2 3 4 behind turn 1, flip, swap 0 1, lift 1, turn 2.
            long last = new int[] {0, 3, 1, 4, 4, 2}[n];
            long king = new int[] {0, 2, 0, 2, 2, 3}[n];
            due.bounds("bowl r", r -> table(4, n).bowl(0, 0, r), 0, 3, n - 1, last, -1);
            due.bounds("ladle r", r -> table(4, n).ladle(0, 0, r), 0, 3, n - 1, 3, -1);
            due.bounds("next r", r -> table(4, n).next(0, r), 0, 2, n - 1, king, -1);
        }
        due.is("bowl of no STIRS", table(4, 0).bowl(0, 0, 0), -1);
        due.is("ladle of no STIRS", table(4, 0).ladle(0, 0, 0), -1);
        due.is("next of no STIRS", table(4, 0).next(0, 0), -1);
    }

    /** An object for which so many DAYS have gone, by STIR 0, all zero CELLS. */
    private static LadleKings behindDays(String text, int days) {
        LadleKings x = due.told(text);
        x.sheet(0, 0, 20);
        for (int gone = 0; gone < days; gone += 20) {
            x.read(0, 0, 0, Math.min(20, days - gone));
        }
        due.is("DAYS", x.rule(3), days);
        return x;
    }

    /** Promise 17: the 999th goes, the 1000th does not. */
    private static void dayEdges() {
        for (int stirs = 1; stirs <= 5; stirs++) {
            int n = stirs;
            long king = new int[] {0, 2, 0, 2, 2, 3}[n];
            due.bounds("day", r -> table(4, n).day(r), 0, 2, n - 1, king, -1);
        }
        due.is("no STIRS", table(4, 0).day(0), -1);
        LadleKings x = behindDays("seats 2;pot 9 9;turn 1;flip;", 998);
        due.isTrue("the 999th", x.day(1) >= 0);
        due.is("DAYS", x.rule(3), 999);
        due.is("the 1000th", x.day(0), -3);
        due.is("the 1000th", x.day(1), -3);
        due.is("BAD ahead of FULL", x.day(2), -1);
        due.is("BAD ahead of FULL", x.day(-1), -1);
        due.is("DAYS", x.rule(3), 999);
        due.is("EATEN", x.one(0, 3), 9 * 999);
        due.is("what is asked goes on", x.next(x.rule(2), 0) >= 0 ? 1 : 0, 1);
        due.is("what is asked goes on", x.chance(0, 10, 1) > 0 ? 1 : 0, 1);
        due.is("a new text begins anew", Due.tell(x, "flip;"), 1);
        due.is("DAYS", x.rule(3), 0);
        due.isTrue("the first DAY", x.day(0) >= 0);
        LadleKings y = behindDays("seats 2;turn 1;", 998);
        y.keep(0);
        due.isTrue("the 999th", y.day(0) >= 0);
        due.is("the 1000th", y.day(0), -3);
        y.back(0);
        due.isTrue("the 999th again", y.day(0) >= 0);
        due.is("the 1000th again", y.day(0), -3);
    }

    /** Promise 18: less than NEED times DAYS, not just so much; no one at first. */
    private static void hungryEdges() {
        for (int need = 0; need <= 9; need++) {
            LadleKings x = due.told("seats 2;pot 5 5;need 0 " + need + ";turn 2;");
            due.is("no DAYS", x.hungry(), 0);
            for (int day = 1; day <= 3; day++) {
                x.day(0);
                due.is("5 a DAY, NEED " + need, x.hungry(), need > 5 ? 1 : 0);
            }
        }
        LadleKings all = due.told("seats 7;need 0 9;need 1 9;need 2 9;need 3 9;need 4 9;need 5 9;need 6 9;flip;");
        all.day(0);
        due.is("all seven", all.hungry(), 127);
        LadleKings one = due.told("seats 2;pot 4 0;bone 1;need 1 4;turn 2;");
        one.day(0);
        due.is("just so much", one.hungry(), 0);
        one.fill(0, 3);
        one.day(0);
        due.is("one less", one.hungry(), 2);
        one.fill(0, 5);
        one.day(0);
        due.is("made good", one.hungry(), 0);
        LadleKings long999 = behindDays("seats 2;pot 9 9;need 0 9;need 1 9;turn 2;", 999);
        due.is("999 DAYS of NEED", long999.hungry(), 0);
    }

    /** Promises 19 and 20: 0 to 10 DAYS, SEATS, 0 and 1; BAD ahead of STATE. */
    private static void luckEdges() {
        due.bounds("chance n", n -> due.told("seats 2;bone 1;flip;turn 2;").chance(0, n, 1), 0, 1, 10, 2, -1);
        due.bounds("chance what", what -> due.told("seats 3;flip;turn 3;turn 6;").chance(0, 1, what), 0, 1, 1, 3, -1);
        due.bounds("lasts n", n -> due.told("seats 2;bone 1;flip;turn 2;").lasts(n, 1), 0, 1, 10, 1024, -1);
        due.bounds("lasts what", what -> due.told("seats 3;flip;turn 3;turn 6;").lasts(1, what), 0, 1, 1, 3, -1);
        for (int seats = 2; seats <= 7; seats++) {
            int s = seats;
            due.bounds("chance p", p -> due.told("seats " + s + ";flip;").chance(p, 0, 0), 0, 1, s - 1, 0, -1);
        }
        LadleKings none = new LadleKings();
        due.bounds("chance n, no STIRS", n -> none.chance(0, n, 0), 0, -2, 10, -2, -1);
        due.bounds("chance p, no STIRS", p -> none.chance(p, 0, 0), 0, -2, 3, -2, -1);
        due.bounds("chance what, no STIRS", what -> none.chance(0, 0, what), 0, -2, 1, -2, -1);
        due.bounds("lasts n, no STIRS", n -> none.lasts(n, 0), 0, -2, 10, -2, -1);
        due.bounds("lasts what, no STIRS", what -> none.lasts(0, what), 0, -2, 1, -2, -1);
        LadleKings most = due.told("seats 2;bone 1;turn 2;flip;turn 4;turn 6;turn 2;");
        due.is("five STIRS, ten DAYS", most.lasts(10, 0), 1048576);
        due.is("five STIRS, ten DAYS", most.lasts(10, 1), 9765625);
    }

    /** A "what" of 0, or 10 and i (0 to last), is taken; 1, 9 and one behind the last are not. */
    private static void rowQuestions(String call, IntToLongFunction answer, int last, long each) {
        due.bounds(call + " 10 and i", answer, 10, each, 10 + last, each, -1);
        due.is(call + " 0", answer.applyAsLong(0) != -1 ? 1 : 0, 1);
        int[] beyond = {-11, -10, -1, 1, 2, 5, 8, 9};
        for (int what : beyond) {
            due.is(call + " " + what, answer.applyAsLong(what), -1);
        }
    }

    /** Promise 21: 1 to 10 DAYS. */
    private static void reignEdges() {
        due.bounds("reign n", n -> due.told("seats 2;bone 1;turn 2;").reign(n, 0), 1, 1, 10, 10, -1);
        rowQuestions("reign", what -> due.told("seats 2;bone 1;turn 2;").reign(10, what), 9, 0);
        rowQuestions("reign, no STIRS", what -> new LadleKings().reign(10, what), 9, -2);
        due.bounds("reign n, no STIRS", n -> new LadleKings().reign(n, 19), 1, -2, 10, -2, -1);
        LadleKings x = due.told("seats 2;bone 1;turn 2;");
        for (int n = 1; n <= 10; n++) {
            due.is("the longest up to " + n, x.reign(n, 0), n);
            due.is("its last DAY", x.reign(n, 10 + n - 1), 0);
            due.is("one behind it", x.reign(n, 10 + n), n < 10 ? -4 : -1);
        }
        LadleKings never = due.told("seats 2;turn 2;");
        due.is("no DAY", never.reign(10, 0), 0);
        rowQuestions("reign of no DAY", what -> never.reign(10, what), 9, -4);
    }

    /** Promise 22: 0 to 10 DAYS. */
    private static void raiseEdges() {
        for (int seats = 2; seats <= 7; seats++) {
            int s = seats;
            String text = "seats " + s + ";king " + (s - 1) + ";bone " + (s - 1) + ";turn 1;";
            due.bounds("raise p", p -> due.told(text).raise(p, 0), 0, 1, s - 1, 0, -1);
        }
        for (int king = 0; king < 7; king++) {
            for (int bone = 0; bone < 7; bone++) {
                LadleKings x = due.told("seats 7;king " + king + ";bone " + bone + ";turn 1;flip;");
                for (int p = 0; p < 7; p++) {
                    due.isTrue("no DAY for THE KING alone", (x.raise(p, 0) == 0) == (p == king));
                }
            }
        }
        LadleKings ten = due.told("seats 6;bone 0;friend 5 4;friend 2 0;friend 5 3;flip;");
        due.is("ten DAYS", ten.raise(5, 0), 10);
        rowQuestions("raise by ten", what -> ten.raise(5, what), 9, 0);
        LadleKings eleven = due.told("seats 7;bone 3;friend 6 3;friend 4 6;friend 0 3;turn 3;");
        due.is("eleven are too many", eleven.raise(2, 0), -4);
        rowQuestions("raise by no row", what -> eleven.raise(2, what), 9, -4);
        LadleKings king = due.told("seats 2;turn 1;");
        due.is("no DAY", king.raise(0, 0), 0);
        rowQuestions("raise by no DAY", what -> king.raise(0, what), 9, -4);
        rowQuestions("raise, no STIRS", what -> new LadleKings().raise(1, what), 9, -2);
        due.bounds("raise p, no STIRS", p -> new LadleKings().raise(p, 0), 0, -2, 3, -2, -1);
    }

    /** Promise 23. */
    private static void coupEdges() {
        String text = "seats 3;pot 1 2 3;turn 3;turn 3;";
        due.bounds("coup k", k -> due.told(text).coup(k, 0, 0), 0, 2, 2, 1, -1);
        due.bounds("coup r", r -> due.told(text).coup(0, r, 0), 0, 2, 1, 2, -1);
        due.bounds("coup what", what -> due.told(text).coup(0, 0, what), 0, 2, 1, 6, -1);
        LadleKings none = due.told("seats 3;turn 1;");
        due.bounds("coup what, none", what -> none.coup(0, 0, what), 0, -4, 1, -4, -1);
        due.bounds("coup k, none", k -> none.coup(k, 0, 0), 0, -4, 2, -4, -1);
        due.is("no STIRS", new LadleKings().coup(0, 0, 0), -1);
        // Of 18 SPOONS 9 are just half, 10 of 19 are more.
        LadleKings x = due.told("seats 2;pot 0 1;turn 2;spoons 0 9;spoons 1 9;");
        due.is("just half", x.coup(0, 0, 0), -4);
        x.spoon(0, 8);
        due.is("more than half", x.coup(0, 0, 0), 1);
        due.is("he alone", x.coup(0, 0, 1), 2);
        x.spoon(0, 9);
        x.spoon(1, 8);
        due.is("less than half", x.coup(0, 0, 0), -4);
        // A greater BOWL, not one alike.
        LadleKings alike = due.told("seats 2;pot 1 1;turn 2;spoons 1 9;");
        due.is("alike", alike.coup(0, 0, 0), -4);
        alike.fill(1, 2);
        due.is("one more", alike.coup(0, 0, 0), 1);
        alike.fill(1, 0);
        due.is("one less", alike.coup(0, 0, 0), -4);
        LadleKings seven = due.told("seats 7;pot 1 2 3 4 5 6 7;turn 6;turn 1;");
        for (int k = 0; k < 7; k++) {
            due.isTrue("not the KING himself as c", seven.coup(k, 0, 0) != k);
        }
    }

    /** Promise 24. */
    private static void firmEdges() {
        for (int stirs = 1; stirs <= 5; stirs++) {
            int n = stirs;
            due.bounds("firm r", r -> due.told("seats 2;" + "turn 2;".repeat(n)).firm(r), 0, 3, n - 1, 3, -1);
        }
        due.is("no STIRS", new LadleKings().firm(0), -1);
        for (int seats = 2; seats <= 7; seats++) {
            due.is("all", due.told("seats " + seats + ";flip;").firm(0), (1 << seats) - 1);
        }
        LadleKings x = due.told("seats 7;pot 1 2 3 4 5 6 7;turn 6;");
        int bits = x.firm(0);
        for (int k = 0; k < 7; k++) {
            due.is("firm is who meets no COUP", bits >> k & 1, x.coup(k, 0, 0) == -4 ? 1 : 0);
        }
    }

    /** Promise 25: six. */
    private static void seeEdges() {
        for (int seats = 2; seats <= 7; seats++) {
            int s = seats;
            due.bounds("see of " + s, p -> table(s, 0).see(p), 0, 1, s - 1, 1, -1);
        }
        LadleKings x = due.told("flip;");
        for (int i = 1; i <= 6; i++) {
            due.is("see", x.see(3), i);
        }
        due.is("the 7th", x.see(0), -3);
        due.bounds("BAD ahead of FULL", p -> x.see(p), 0, -3, 3, -3, -1);
        due.is("SEEN", x.count(0), 6);
        due.is("forget one", x.forget(5), 6);
        due.is("the 6th again", x.see(0), 6);
        due.is("the 7th", x.see(0), -3);
    }

    /** Promise 26: 0 to how many there are. */
    private static void forgetEdges() {
        for (int seen = 0; seen <= 6; seen++) {
            int n = seen;
            due.bounds("forget of " + n, keep -> {
                LadleKings x = new LadleKings();
                for (int i = 0; i < n; i++) {
                    x.see(0);
                }
                int were = x.forget(keep);
                due.is("SEEN", x.count(0), were == -1 ? n : keep);
                return were;
            }, 0, n, n, n, -1);
        }
    }

    /** Promise 27: none of no DAY is asked, 0 to 5; what is not there is NONE. */
    private static void historiesEdges() {
        LadleKings six = due.told("seats 2;bone 1;turn 2;");
        for (int i = 1; i <= 6; i++) {
            six.see(0);
            due.is("one HISTORY", six.histories(0), 1);
            due.is("its last DAY", six.histories(10 + i - 1), 0);
            due.is("one behind it", six.histories(10 + i), i < 6 ? -4 : -1);
        }
        rowQuestions("histories", what -> six.histories(what), 5, 0);
        six.forget(5);
        six.see(1);
        due.is("none", six.histories(0), 0);
        rowQuestions("histories, none", what -> six.histories(what), 5, -4);
        for (int n = 5; n >= 0; n--) {
            six.forget(n);
            due.is("one HISTORY of fewer DAYS", six.histories(0), 1);
            due.is("a DAY that was forgotten", six.histories(10 + n), -4);
            due.is("a DAY that was forgotten", six.could(n), -1);
            due.is("the last that is left", six.histories(10 + Math.max(0, n - 1)), n > 0 ? 0 : -4);
        }
        rowQuestions("histories, no STIRS, nothing SEEN", what -> new LadleKings().histories(what), 5, -4);
    }

    /** Promise 28: 0 to one less than SEEN. */
    private static void couldEdges() {
        due.is("nothing SEEN", due.told("flip;").could(0), -1);
        for (int seen = 1; seen <= 6; seen++) {
            int n = seen;
            due.bounds("could of " + n, i -> {
                LadleKings x = due.told("seats 2;bone 1;turn 1;turn 2;turn 4;");
                for (int j = 0; j < n; j++) {
                    x.see(0);
                }
                return x.could(i);
            }, 0, 6, n - 1, 6, -1);
        }
        LadleKings x = due.told("seats 2;bone 1;turn 1;turn 2;turn 4;");
        x.see(0);
        x.see(1);
        due.is("up by turn 1 alone", x.could(1), 1);
        x.forget(1);
        due.is("forgotten", x.could(1), -1);
    }

    /** Promise 29: 1 to 12 times, 0 to n finds. */
    private static void blindEdges() {
        due.bounds("blind n", n -> due.told("seats 2;").blind(0, n, 1), 1, 1, 12, 1, -1);
        due.bounds("blind n", n -> due.told("seats 2;").blind(Math.max(0, Math.min(n, 12)), n, 1), 1, 2, 12, 4096, -1);
        for (int times = 1; times <= 12; times++) {
            int n = times;
            due.bounds("blind m of " + n, m -> due.told("seats 2;").blind(m, n, 1), 0, 1, n, 1L << n, -1);
        }
        due.bounds("blind what", what -> new LadleKings().blind(1, 1, what), 0, 1, 1, 4, -1);
    }

    /** Promise 30: 1 to 4 DAYS, 0 to 3; BAD, STATE, NONE. */
    private static void fairEdges() {
        due.bounds("fair n", n -> due.told("seats 2;pot 0 1;bone 1;turn 2;").fair(n, 0), 1, 1, 4, 4, -1);
        rowQuestions("fair", what -> due.told("seats 2;pot 0 1;turn 2;").fair(4, what), 3, 0);
        rowQuestions("fair, no STIRS", what -> new LadleKings().fair(4, what), 3, -2);
        rowQuestions("fair of one DAY, no STIRS", what -> new LadleKings().fair(1, what), 3, -2);
        due.bounds("fair n, no STIRS", n -> new LadleKings().fair(n, 0), 1, -2, 4, -2, -1);
        LadleKings x = due.told("seats 2;pot 0 1;turn 2;");
        for (int n = 1; n <= 4; n++) {
            for (int i = 0; i < 4; i++) {
                due.is("DAY " + i + " of " + n, x.fair(n, 10 + i), i < n ? 0 : -4);
            }
            due.is("DAY 4", x.fair(n, 14), -1);
        }
        for (int seats = 2; seats <= 7; seats++) {
            for (int king = 0; king < seats; king++) {
                // There is one STIR alone: so the DAYS themselves tell what all get.
                LadleKings y = due.told("seats " + seats + ";pot 9 1;bone 1;king " + king + ";turn 1;");
                for (int n = 1; n <= 4; n++) {
                    y.keep(0);
                    int want = spreadBehind(y, seats, n);
                    y.back(0);
                    due.is("fair " + n + " of " + seats, y.fair(n, 0), want);
                }
            }
        }
        LadleKings last = behindDays("seats 2;pot 0 9;bone 1;turn 2;turn 4;", 999);
        due.is("from now on, whatever has gone", last.fair(4, 0), 36);
    }

    private static int spreadBehind(LadleKings x, int seats, int days) {
        for (int i = 0; i < days; i++) {
            x.day(0);
        }
        int most = x.one(0, 3);
        int least = most;
        for (int p = 1; p < seats; p++) {
            most = Math.max(most, x.one(p, 3));
            least = Math.min(least, x.one(p, 3));
        }
        return most - least;
    }
}
