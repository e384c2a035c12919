import java.util.ArrayList;
import java.util.List;

/** The document's "Terms", of DAYS: the ring of SEATS, STIRS from the end on at the top again, fractions. */
public final class RingTest {
    private static final Due due = new Due();

    public static void main(String[] args) {
        turnsWrap();
        flips();
        swaps();
        lifts();
        stirsMoveTheBone();
        ringOfSeats();
        daysRoundTheRing();
        potIsFullAgain();
        chancesAreWhole();
        fractionsAtTheirEnds();
        blindsAreLowest();
        due.finish();
    }

    /** What stirs tells of the PLACES 0 .. seats less 1 must bring the LAYERS to where the list has them. */
    private static void brings(String text, List<Integer> stirred) {
        LadleKings x = due.told(text);
        int seats = stirred.size();
        for (int i = 0; i < seats; i++) {
            due.is(text + " stir(0, " + i + ")", x.stir(0, i), stirred.indexOf(i));
        }
        due.is(text + " beyond the last PLACE", x.stir(0, seats), -1);
        due.is(text + " above the first PLACE", x.stir(0, -1), -1);
        for (int i = 0; i < seats; i++) {
            x.fill(i, i);
        }
        x.day(0);
        for (int i = 0; i < seats; i++) {
            due.is(text + " pot(" + i + ") behind the DAY", x.pot(i), stirred.get(i));
        }
    }

    private static List<Integer> layers(int seats) {
        List<Integer> all = new ArrayList<>();
        for (int i = 0; i < seats; i++) {
            all.add(i);
        }
        return all;
    }

    /** Each LAYER goes k PLACES down, from the end on at the top again, more than once round where k is great. */
    private static void turnsWrap() {
        for (int seats = 2; seats <= 7; seats++) {
            for (int k = 1; k <= 6; k++) {
                List<Integer> pot = layers(seats);
                for (int i = 0; i < k; i++) {
                    pot.add(0, pot.remove(seats - 1));
                }
                brings("seats " + seats + ";turn " + k + ";", pot);
            }
        }
    }

    private static void flips() {
        for (int seats = 2; seats <= 7; seats++) {
            List<Integer> pot = new ArrayList<>();
            for (int i : layers(seats)) {
                pot.add(0, i);
            }
            brings("seats " + seats + ";flip;", pot);
        }
    }

    private static void swaps() {
        for (int seats = 2; seats <= 7; seats++) {
            for (int a = 0; a < seats; a++) {
                for (int b = 0; b < seats; b++) {
                    if (a != b) {
                        List<Integer> pot = layers(seats);
                        pot.set(a, b);
                        pot.set(b, a);
                        brings("seats " + seats + ";swap " + a + " " + b + ";", pot);
                    }
                }
            }
        }
    }

    private static void lifts() {
        for (int seats = 2; seats <= 7; seats++) {
            for (int a = 1; a < seats; a++) {
                List<Integer> pot = layers(seats);
                pot.add(0, pot.remove(a));
                brings("seats " + seats + ";lift " + a + ";", pot);
            }
        }
    }

    /** The BONE stays in its LAYER, wherever that goes. */
    private static void stirsMoveTheBone() {
        String[] stirs = {"turn 1;", "turn 6;", "flip;", "swap 0 1;", "lift 1;"};
        for (int seats = 2; seats <= 7; seats++) {
            for (String stir : stirs) {
                for (int bone = 0; bone < seats; bone++) {
                    LadleKings x = due.told("seats " + seats + ";bone " + bone + ";" + stir);
                    for (int i = 0; i < seats; i++) {
                        x.fill(i, i == bone ? 9 : 0);
                    }
                    for (int i = 0; i < 8; i++) {
                        int place = x.stir(0, x.rule(4));
                        x.day(0);
                        due.is("the PLACE of the BONE", x.rule(4), place);
                        due.is("its LAYER", x.pot(place), 9);
                    }
                }
            }
        }
    }

    /** All KINGS, all FRIENDS, all counts of SEATS: from the KING on, behind the last SEAT comes 0. */
    private static void ringOfSeats() {
        for (int seats = 2; seats <= 7; seats++) {
            for (int king = 0; king < seats; king++) {
                for (int friends = 0; friends < 1 << seats; friends++) {
                    if ((friends >> king & 1) == 0) {
                        served(seats, king, friends);
                    }
                }
            }
        }
    }

    private static void served(int seats, int king, int friends) {
        LadleKings x = due.told("seats " + seats + ";turn " + (seats < 7 ? seats : 1) + ";");
        for (int p = 0; p < seats; p++) {
            if ((friends >> p & 1) != 0) {
                x.befriend(king, p, true);
            }
            x.fill(p, p);
        }
        List<Integer> left = layers(seats);
        for (int i = 0; i < seats; i++) {
            int p = (king + i) % seats;
            boolean fromBelow = p == king || (friends >> p & 1) != 0;
            int place = left.remove(fromBelow ? left.size() - 1 : 0);
            due.is("ladle " + king + " " + p + " of " + seats + ", FRIENDS " + friends, x.ladle(king, p, 0), place);
            due.is("bowl", x.bowl(king, p, 0), seats < 7 ? place : (place + 6) % 7);
        }
    }

    /** Who got the LAYER with the BONE is KING from the next DAY on; each has EATEN his BOWL more. */
    private static void daysRoundTheRing() {
        for (int seats = 2; seats <= 7; seats++) {
            LadleKings x = due.told("seats " + seats + ";pot 7 3;king " + (seats - 1) + ";friend 0 1;turn 1;lift 1;");
            int[] eaten = new int[seats];
            for (int i = 0; i < 12; i++) {
                int r = i % 2;
                int king = x.rule(2);
                int bonePlace = x.stir(r, x.rule(4));
                for (int p = 0; p < seats; p++) {
                    eaten[p] += x.bowl(king, p, r);
                    due.isTrue("who gets the BONE is KING next",
                        (x.ladle(king, p, r) == bonePlace) == (x.next(king, r) == p));
                }
                int next = x.next(king, r);
                due.is("day", x.day(r), next);
                due.is("THE KING", x.rule(2), next);
                due.is("DAYS", x.rule(3), i + 1);
            }
            for (int p = 0; p < seats; p++) {
                due.is("EATEN", x.one(p, 3), eaten[p]);
            }
        }
    }

    private static void potIsFullAgain() {
        LadleKings x = due.told("seats 3;pot 1 2 3;turn 1;");
        for (int i = 1; i <= 9; i++) {
            x.day(0);
            due.is("PIECES in THE POT", x.count(4), 6);
            due.is("the top", x.pot(0), 3 - (i - 1) % 3);
        }
    }

    private static long greatestDivisor(long a, long b) {
        return b == 0 ? a : greatestDivisor(b, a % b);
    }

    private static void lowest(String call, long numerator, long denominator) {
        due.isTrue(call + ": the denominator is above 0", denominator > 0);
        due.isTrue(call + ": from 0 to 1", numerator >= 0 && numerator <= denominator);
        due.is(call + ": lowest terms", greatestDivisor(numerator, denominator), 1);
    }

    /** Lowest terms; and one of all is KING behind each DAY: their chances are 1 together. */
    private static void chancesAreWhole() {
        String[] texts = {"seats 2;turn 1;turn 2;", "seats 3;bone 1;turn 1;flip;lift 1;",
            "seats 7;king 6;bone 3;friend 6 0;turn 1;flip;swap 0 6;lift 3;turn 4;", "seats 5;turn 5;"};
        for (String text : texts) {
            LadleKings x = due.told(text);
            for (int n = 0; n <= 10; n++) {
                long whole = 1;
                for (int i = 0; i < n; i++) {
                    whole *= x.rule(1);
                }
                long sum = 0;
                for (int p = 0; p < x.rule(0); p++) {
                    long denominator = x.chance(p, n, 1);
                    lowest("chance " + p + " " + n, x.chance(p, n, 0), denominator);
                    due.is("a part of all rows", whole % denominator, 0);
                    sum += x.chance(p, n, 0) * (whole / denominator);
                }
                due.is(text + " all chances behind " + n, sum, whole);
                lowest("lasts " + n, x.lasts(n, 0), x.lasts(n, 1));
            }
        }
    }

    /** 0 is 0 by 1; what is sure is 1 by 1. */
    private static void fractionsAtTheirEnds() {
        LadleKings x = due.told("seats 3;bone 2;turn 3;turn 6;");
        for (int n = 0; n <= 10; n++) {
            due.is("sure", x.chance(0, n, 0), 1);
            due.is("sure", x.chance(0, n, 1), 1);
            due.is("never", x.chance(1, n, 0), 0);
            due.is("never", x.chance(1, n, 1), 1);
            due.is("lasts", x.lasts(n, 0), 1);
            due.is("lasts", x.lasts(n, 1), 1);
        }
        LadleKings y = due.told("seats 3;bone 0;turn 3;");
        for (int n = 1; n <= 10; n++) {
            due.is("lasts never", y.lasts(n, 0), 0);
            due.is("lasts never", y.lasts(n, 1), 1);
        }
        for (int n = 1; n <= 12; n++) {
            due.is("none or more", x.blind(0, n, 0), 1);
            due.is("none or more", x.blind(0, n, 1), 1);
        }
    }

    /** By choosing: C(n, j) times (seats less 1) to the n less j, of seats to the n. */
    private static void blindsAreLowest() {
        for (int seats = 2; seats <= 7; seats++) {
            for (int n = 1; n <= 12; n++) {
                LadleKings x = due.told("seats " + seats + ";");
                long whole = power(seats, n);
                for (int m = 0; m <= n; m++) {
                    long found = 0;
                    for (int j = m; j <= n; j++) {
                        found += choose(n, j) * power(seats - 1, n - j);
                    }
                    long divisor = greatestDivisor(found, whole);
                    due.is("blind " + m + " " + n + " of " + seats, x.blind(m, n, 0), found / divisor);
                    due.is("blind " + m + " " + n + " of " + seats, x.blind(m, n, 1), whole / divisor);
                }
            }
        }
    }

    private static long power(int base, int n) {
        return n == 0 ? 1 : base * power(base, n - 1);
    }

    private static long choose(int n, int j) {
        return j == 0 || j == n ? 1 : choose(n - 1, j - 1) + choose(n - 1, j);
    }
}
