import java.util.ArrayList;
import java.util.List;

/** The document's "Terms", sentence by sentence, of the text: bounds, TOKENS, FAULTS and their places. */
public final class TermsTest {
    private static final String[] NAMES = {"seats", "pot", "bone", "king", "friend", "spoons", "need", "turn", "flip",
        "swap", "lift"};
    private static final String[] STIRS = {"turn 1;", "flip;", "swap 0 1;", "lift 1;"};
    private static final Due due = new Due();

    public static void main(String[] args) {
        numbersHaveBounds();
        numbersArrive();
        seatsAndPlacesThatThereAreNot();
        turnIsNoPlace();
        secondTimes();
        linesThatMayComeAgain();
        ownFriends();
        swappedAlike();
        stirsAreFive();
        piecesAreSeven();
        everyByteAlone();
        everyByteBehindAName();
        everyByteBehindANumber();
        blanksAreFree();
        blanksThatAreNeeded();
        numbersOfFigures();
        namesThatBeginNoLine();
        everyTokenInEveryPlace();
        linesThatEnd();
        firstFaultIsTold();
        tapeToItsLastByte();
        linesAreCounted();
        due.finish();
    }

    private static void taken(String text, int lines) {
        LadleKings x = new LadleKings();
        due.is("text '" + text + "'", Due.tell(x, text), lines);
        due.is("fault of '" + text + "'", x.fault(), 0);
    }

    private static void faulty(String text, int place, int fault) {
        LadleKings x = new LadleKings();
        due.is("text '" + text + "'", Due.tell(x, text), -10 - place);
        due.is("fault of '" + text + "'", x.fault(), fault);
        due.is("THE TAPE is empty behind '" + text + "'", x.count(2), 0);
    }

    /** All NUMBERS that can be written, where a line wants one from low to high. */
    private static void slot(String ahead, String behind, int low, int high) {
        int lines = (ahead + behind).split(";").length;
        for (int v = 0; v <= 99; v++) {
            List<String> forms = new ArrayList<>(List.of(v < 10 ? "0" + v : "" + v));
            if (v < 10) {
                forms.add("" + v);
            }
            for (String form : forms) {
                if (v >= low && v <= high) {
                    taken(ahead + form + behind, lines);
                } else {
                    faulty(ahead + form + behind, ahead.length(), 3);
                }
            }
        }
    }

    /** FAULT 3: each NUMBER of each line, at its bounds and beyond them. */
    private static void numbersHaveBounds() {
        slot("seats ", ";", 2, 7);
        for (int ahead = 0; ahead < 7; ahead++) {
            slot("seats 7;pot " + "5 ".repeat(ahead), " 5".repeat(6 - ahead) + ";", 0, 9);
        }
        slot("seats 7;bone ", ";", 0, 6);
        slot("seats 7;king ", ";", 0, 6);
        slot("seats 7;spoons ", " 1;", 0, 6);
        slot("seats 7;spoons 6 ", ";", 1, 9);
        slot("seats 7;need ", " 0;", 0, 6);
        slot("seats 7;need 6 ", ";", 0, 9);
        slot("seats 7;turn ", ";", 1, 6);
        slot("seats 7;lift ", ";", 1, 6);
        // Two that must be unlike: the other one is chosen so that the bound itself can be taken.
        pairSlot("friend");
        pairSlot("swap");
    }

    private static void pairSlot(String name) {
        String ahead = "seats 7;" + name + " ";
        for (int v = 0; v <= 99; v++) {
            int other = v == 0 ? 6 : 0;
            if (v <= 6) {
                taken(ahead + v + " " + other + ";", 2);
                taken(ahead + other + " " + v + ";", 2);
            } else {
                faulty(ahead + v + " " + other + ";", ahead.length(), 3);
                faulty(ahead + other + " " + v + ";", ahead.length() + 2, 3);
            }
        }
    }

    /** What is told at the bounds is what is asked then. */
    private static void numbersArrive() {
        for (int seats = 2; seats <= 7; seats++) {
            due.is("SEATS", due.told("seats " + seats + ";").rule(0), seats);
        }
        for (int v = 0; v <= 6; v++) {
            LadleKings x = due.told("seats 7;bone " + v + ";king " + (6 - v) + ";");
            due.is("the BONE", x.rule(4), v);
            due.is("THE KING", x.rule(2), 6 - v);
            due.is("FRIENDS", due.told("seats 7;friend " + v + " " + (v + 1) % 7 + ";").one(v, 0), 1 << (v + 1) % 7);
        }
        for (int v = 0; v <= 9; v++) {
            LadleKings x = due.told("need 3 " + v + ";spoons 3 " + Math.max(1, v) + ";pot 0 0 0 " + v + ";");
            due.is("NEED", x.one(3, 2), v);
            due.is("SPOONS", x.one(3, 1), Math.max(1, v));
            due.is("PIECES", x.pot(3), v);
            due.is("NEED of another", x.one(2, 2), 0);
            due.is("SPOONS of another", x.one(2, 1), 1);
            due.is("PIECES of another", x.pot(2), 0);
        }
    }

    /** FAULT 6, at the length: the last SEAT or PLACE is there, the one behind it is not, whenever seats is told. */
    private static void seatsAndPlacesThatThereAreNot() {
        String[] lines = {"bone #;", "king #;", "friend # 0;", "friend 0 #;", "spoons # 1;", "need # 0;", "swap # 0;",
            "swap 0 #;", "lift #;"};
        for (int seats = 2; seats <= 7; seats++) {
            String told = "seats " + seats + ";";
            for (String line : lines) {
                String last = line.replace("#", "" + (seats - 1));
                taken(told + last, 2);
                taken(last + told, 2);
                if (seats < 7) {
                    String none = line.replace("#", "" + seats);
                    faulty(told + none, (told + none).length(), 6);
                    faulty(none + told, (told + none).length(), 6);
                    faulty(none + told + "   ", (told + none).length() + 3, 6);
                }
            }
            String pot = "pot" + " 0".repeat(seats) + ";";
            taken(told + pot, 2);
            taken(pot + told, 2);
            if (seats < 7) {
                String more = "pot" + " 0".repeat(seats + 1) + ";";
                faulty(told + more, (told + more).length(), 6);
                faulty(more + told, (told + more).length(), 6);
            }
        }
        for (String line : lines) {
            taken(line.replace("#", "3"), 1);
            faulty(line.replace("#", "4"), line.length(), 6);
        }
        taken("pot 1 2 3 4;", 1);
        faulty("pot 1 2 3 4 5;", 14, 6);
    }

    private static void turnIsNoPlace() {
        for (int k = 1; k <= 6; k++) {
            taken("seats 2;turn " + k + ";", 2);
        }
        taken("seats 2;spoons 1 9;need 1 9;pot 9 9;", 4);
    }

    /** FAULT 4: the NAME, as soon as it is read; what follows is not looked at. */
    private static void secondTimes() {
        String[] lines = {"seats 4;", "pot 0;", "bone 0;", "king 0;"};
        for (String line : lines) {
            String name = line.substring(0, line.indexOf(' '));
            taken(line, 1);
            faulty(line + line, line.length(), 4);
            faulty(line + "flip;  " + line, line.length() + 7, 4);
            faulty(line + name, line.length(), 4);
            faulty(line + name + " 99;", line.length(), 4);
            faulty(line + name + ".", line.length(), 4);
        }
        taken("seats 4;pot 0;bone 0;king 0;", 4);
        taken("king 0;bone 0;pot 0;seats 4;", 4);
    }

    private static void linesThatMayComeAgain() {
        LadleKings x = due.told("spoons 1 2;spoons 1 3;need 1 4;need 1 5;friend 0 1;friend 0 2;friend 1 0;flip;flip;");
        due.is("SPOONS, told last", x.one(1, 1), 3);
        due.is("NEED, told last", x.one(1, 2), 5);
        due.is("FRIENDS", x.one(0, 0), 6);
        due.is("FRIENDS", x.one(1, 0), 1);
        due.is("STIRS", x.rule(1), 2);
    }

    /** FAULT 4: of himself, already; he is the second NUMBER. */
    private static void ownFriends() {
        for (int p = 0; p <= 6; p++) {
            int other = (p + 1) % 7;
            faulty("seats 7;friend " + p + " " + p + ";", 17, 4);
            faulty("friend " + p + "  " + p, 10, 4);
            String line = "friend " + p + " " + other + ";";
            faulty("seats 7;" + line + line, 8 + 11 + 9, 4);
            faulty("seats 7;" + line + "flip;" + line, 8 + 11 + 5 + 9, 4);
            taken("seats 7;" + line + "friend " + other + " " + p + ";", 3);
        }
    }

    /** FAULT 4: PLACES that are alike; the second one. */
    private static void swappedAlike() {
        for (int a = 0; a <= 6; a++) {
            for (int b = 0; b <= 6; b++) {
                String text = "seats 7;swap " + a + " " + b + ";";
                if (a == b) {
                    faulty(text, 15, 4);
                } else {
                    taken(text, 2);
                }
            }
        }
    }

    /** FAULT 5: the 6th STIR, its NAME, of each kind; other lines may come behind the 5th. */
    private static void stirsAreFive() {
        for (String stir : STIRS) {
            String five = stir.repeat(5);
            taken(five, 5);
            due.is("STIRS", due.told(five).rule(1), 5);
            due.is("STIRS", due.told(stir.repeat(4)).rule(1), 4);
            taken(five + "seats 4;need 0 1;", 7);
            for (String sixth : STIRS) {
                faulty(five + sixth, five.length(), 5);
                faulty(five + "king 1;  " + sixth, five.length() + 9, 5);
                faulty(five + sixth.replaceAll("[ 0-9;]", ""), five.length(), 5);
                faulty(five + sixth.replaceAll("[ 0-9;]", "") + " 99", five.length(), 5);
            }
        }
        due.is("no STIRS", due.told("").rule(1), 0);
    }

    /** FAULT 5: the 8th PIECES, it; seven are taken, and at least one must be there. */
    private static void piecesAreSeven() {
        for (int n = 1; n <= 7; n++) {
            LadleKings x = due.told("seats 7;pot" + " 3".repeat(n) + ";");
            due.is("PIECES", x.count(4), 3 * n);
            due.is("the last that is told", x.pot(n - 1), 3);
            due.is("the first that is not", x.pot(n), n < 7 ? 0 : -1);
        }
        faulty("seats 7;pot;", 11, 2);
        faulty("seats 7;pot 1 2 3 4 5 6 7 8;", 26, 5);
        faulty("seats 7;pot 1 2 3 4 5 6 7 8 9;", 26, 5);
        faulty("seats 7;pot 1 2 3 4 5 6 7   8", 28, 5);
        faulty("seats 7;pot 1 2 3 4 5 6 7", 25, 2);
        faulty("seats 7;pot 1 2 3 4 5 6 7 pot;", 26, 2);
        faulty("seats 7;pot 1 2 3 4 5 6 7 888;", 26, 1);
        faulty("seats 2;pot 1 2 3 4 5 6 7 8;", 26, 5);
    }

    /** FAULT 1 or 2: each byte alone; a blank alone is a text of no line. */
    private static void everyByteAlone() {
        for (int c = 0; c < 256; c++) {
            String text = "" + (char) c;
            if (c == ' ') {
                taken(text, 0);
            } else {
                faulty(text, 0, isOfToken(c) ? 2 : 1);
                faulty("flip; " + text, 6, isOfToken(c) ? 2 : 1);
            }
        }
    }

    private static boolean isOfToken(int c) {
        return isLetter(c) || isFigure(c) || c == ';';
    }

    private static boolean isLetter(int c) {
        return c >= 'a' && c <= 'z';
    }

    private static boolean isFigure(int c) {
        return c >= '0' && c <= '9';
    }

    private static void everyByteBehindAName() {
        for (int c = 0; c < 256; c++) {
            String text = "flip" + (char) c + ";";
            if (c == ' ') {
                taken(text, 1);
            } else if (isLetter(c)) {
                faulty(text, 0, 2);
            } else if (c == ';') {
                faulty(text, 5, 2);
            } else {
                faulty(text, 4, isFigure(c) ? 2 : 1);
            }
        }
    }

    private static void everyByteBehindANumber() {
        for (int c = 0; c < 256; c++) {
            String text = "bone 0" + (char) c + ";";
            if (c == ' ' || c >= '0' && c <= '3') {
                taken(text, 1);
            } else if (isFigure(c)) {
                faulty(text, c <= '6' ? 8 : 5, c <= '6' ? 6 : 3);
            } else if (c == ';') {
                faulty(text, 7, 2);
            } else {
                faulty(text, 6, isLetter(c) ? 2 : 1);
            }
        }
    }

    /** As many as wanted, ahead, between, behind; none is needed but between two of a kind. */
    private static void blanksAreFree() {
        String many = " ".repeat(40);
        taken("", 0);
        taken(many.repeat(8), 0);
        taken("seats7;pot1 2;bone0;king1;friend0 1;spoons0 2;need0 3;turn1;flip;swap0 1;lift1;", 11);
        taken(many + "friend" + many + "0" + many + "1" + many + ";" + many, 1);
        taken(many + "flip" + many + ";" + many + "flip" + many + ";", 2);
        LadleKings x = due.told("  pot" + many + "1" + many + "2;");
        due.is("PIECES", x.pot(1), 2);
    }

    private static void blanksThatAreNeeded() {
        faulty("flipflip;", 0, 2);
        faulty("seats 4;flippot 1;", 8, 2);
        faulty("friend 01;", 9, 2);
        faulty("spoons 12;", 7, 3);
        faulty("pot 12;", 4, 3);
        faulty("pot 123;", 4, 1);
        faulty("bone 1flip;", 6, 2);
        faulty("flip1;", 4, 2);
    }

    /** FAULT 1: one figure or two; three and more are too long, whatever they tell. */
    private static void numbersOfFigures() {
        taken("bone 1;", 1);
        taken("bone 01;", 1);
        faulty("bone 001;", 5, 1);
        faulty("bone 000;", 5, 1);
        faulty("bone  100;", 6, 1);
        faulty("bone 0000000001;", 5, 1);
        faulty("bone 4294967296;", 5, 1);
        faulty("bone " + "9".repeat(300), 5, 1);
        faulty("001", 0, 1);
        faulty("flip 001", 5, 1);
        faulty("seats 4; 001", 9, 1);
    }

    /** FAULT 2: a NAME that is shorter, longer, or another. */
    private static void namesThatBeginNoLine() {
        for (String name : NAMES) {
            faulty("flip;" + name.substring(0, name.length() - 1) + ";", 5, 2);
            faulty("flip;" + name.substring(1) + ";", 5, 2);
            faulty("flip;" + name + name.charAt(name.length() - 1) + ";", 5, 2);
            faulty("flip;" + name.charAt(0) + name + ";", 5, 2);
            faulty("flip;" + name + "a 1;", 5, 2);
            faulty("flip;" + name.toUpperCase() + ";", 5, 1);
            for (int i = 0; i < name.length(); i++) {
                faulty("flip;" + name.substring(0, i) + 'x' + name.substring(i + 1) + " 1;", 5, 2);
            }
        }
        faulty("a".repeat(320), 0, 2);
    }

    /** FAULTS 1 and 2: behind each NAME and each count of NUMBERS, every kind of TOKEN that can not stand there. */
    private static void everyTokenInEveryPlace() {
        int[] fewest = {1, 1, 1, 1, 2, 2, 2, 1, 0, 2, 1};
        int[] most = {1, 7, 1, 1, 2, 2, 2, 1, 0, 2, 1};
        for (int name = 0; name < NAMES.length; name++) {
            for (int n = 0; n <= most[name]; n++) {
                String ahead = "need 0 1; " + NAMES[name] + numbers(name, n);
                int at = ahead.length() + 1;
                faulty(ahead + " flip;", at, 2);
                faulty(ahead + " x", at, 2);
                faulty(ahead + " .", at, 1);
                faulty(ahead + " 100;", at, 1);
                faulty(ahead, ahead.length(), 2);
                faulty(ahead + " ", at, 2);
                if (n < fewest[name]) {
                    faulty(ahead + " ;", at, 2);
                }
                if (n == most[name]) {
                    faulty(ahead + " 1;", at, NAMES[name].equals("pot") ? 5 : 2);
                }
            }
        }
        faulty("flip;;", 5, 2);
        faulty("flip; 1;", 6, 2);
        faulty(" ;", 1, 2);
    }

    /** So many NUMBERS as each line can have. */
    private static String numbers(int name, int n) {
        String all = NAMES[name].equals("seats") ? " 7" : " 1 2 3 4 5 6 7";
        return all.substring(0, 2 * n);
    }

    /** Each line is taken with as many NUMBERS as told, neither fewer nor more. */
    private static void linesThatEnd() {
        taken("seats 7;", 1);
        taken("pot 1;", 1);
        taken("seats 7;pot 1 2 3 4 5 6 7;", 2);
        taken("bone 1;", 1);
        taken("king 1;", 1);
        taken("friend 1 2;", 1);
        taken("spoons 1 2;", 1);
        taken("need 1 2;", 1);
        taken("turn 1;", 1);
        taken("flip;", 1);
        taken("swap 1 2;", 1);
        taken("lift 1;", 1);
        // A line without its end is none, though all else of it is there.
        faulty("seats 7;turn 1", 14, 2);
        faulty("seats 7 turn 1;", 8, 2);
    }

    /** The first met: those of a TOKEN ahead of those behind it, and 6 behind all. */
    private static void firstFaultIsTold() {
        faulty("king 6;seats 2;.", 15, 1);
        faulty("king 6;seats 2;;", 15, 2);
        faulty("king 6;seats 2", 14, 2);
        faulty("king 6;bone 7;", 12, 3);
        faulty("king 6;king 1;", 7, 4);
        faulty("king 6;" + "flip;".repeat(6), 32, 5);
        faulty("king 6;seats 7;bone 6;seats 2;", 22, 4);
        faulty("king 7 .", 5, 3);
        faulty("king 7.", 5, 3);
        faulty("king .7", 5, 1);
        faulty("friend 7 7;", 7, 3);
        faulty("friend 3 3 3;", 9, 4);
        faulty("swap 8 8;", 5, 3);
        faulty("spoons 9 0;", 7, 3);
        faulty("seats 1;seats 2;", 6, 3);
        faulty("flips flip flip", 0, 2);
    }

    /** THE TAPE has 320 bytes: a text can fill them, and its FAULT can stand at the last one, or behind it. */
    private static void tapeToItsLastByte() {
        taken("flip;" + " ".repeat(310) + "flip;", 2);
        taken("need 0 1;".repeat(35) + "flip;", 36);
        faulty("flip;" + " ".repeat(314) + ".", 319, 1);
        faulty("flip;" + " ".repeat(314) + ";", 319, 2);
        faulty("flip;" + " ".repeat(311) + "flip", 320, 2);
        faulty("flip;" + " ".repeat(308) + "king 07", 318, 3);
        faulty("king 4;" + " ".repeat(313), 320, 6);
        LadleKings x = new LadleKings();
        for (int i = 1; i <= 40; i++) {
            due.is("feed", x.feed(0x666c69703b202020L), 8 * i);
        }
        due.is("the 41st", x.feed(0x666c69703b202020L), -3);
        due.is("six STIRS", x.text(), -10 - 40);
        due.is("FAULT", x.fault(), 5);
        due.is("feed from the start again", x.feed(0x666c69703b202020L), 8);
        due.is("text", x.text(), 1);
        due.is("nothing is left of it", x.text(), 0);
    }

    private static void linesAreCounted() {
        for (int n = 0; n <= 35; n++) {
            taken("need 0 1;".repeat(n), n);
        }
    }
}
