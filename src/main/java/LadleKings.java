import java.util.Arrays;

/** Kings by the ladle: a soup in layers with one bone; who finds the bone is king and holds the ladle. */
public final class LadleKings {
    public static final int BAD = -1, STATE = -2, FULL = -3, NONE = -4;

    private static final int FIRST_SEATS = 4, MOST_SEATS = 7;
    private static final int MOST_STIRS = 5;
    private static final int MOST_PIECES = 9, MOST_SPOONS = 9;
    private static final int MOST_SEEN = 6;
    private static final int LAST_DAY = 999;
    private static final int MOST_LUCK_DAYS = 10, MOST_FAIR_DAYS = 4, MOST_READ_DAYS = 20;
    private static final int MOST_TRIES = 12;
    private static final int IMAGES = 2, SHEETS = 4, LANES = 3, MOST_CELLS = 40;
    private static final int TAPE_BYTES = 320;
    /** A "what" of ROW and i asks for the STIR of DAY i of a row. */
    private static final int ROW = 10;
    /** Kinds of STIRS, which are NAMES of lines, too. */
    private static final int TURN = 7, FLIP = 8, SWAP = 9, LIFT = 10;
    private static final int NULL_FAULT = 1, INDEX_FAULT = 2, CAST_FAULT = 3, SIZE_FAULT = 4;

    private final Rules rules = new Rules();
    private final State state = new State();
    private final Tape tape = new Tape();
    private final TextReader reader = new TextReader(tape);
    private final Kitchen kitchen = new Kitchen(rules, state);
    private final Luck luck = new Luck(kitchen);
    private final Plans plans = new Plans(kitchen);
    private final Coups coups = new Coups(kitchen);
    private final Past past = new Past(kitchen);
    private final FairDays fairDays = new FairDays(kitchen);
    private final State[] images = new State[IMAGES];
    private final boolean[] imageHeld = new boolean[IMAGES];
    private final Sheet[] sheets = new Sheet[SHEETS];
    private int latestFault = 0;
    private int latestTear = 0;

    public LadleKings() {
        for (int k = 0; k < IMAGES; k++) {
            images[k] = new State();
        }
        for (int k = 0; k < SHEETS; k++) {
            sheets[k] = new Sheet();
        }
    }

    // ---- the text

    public int feed(long v) {
        return tape.append(v) ? tape.length : FULL;
    }

    public int end(int n) {
        if (n < 0 || n > tape.length) {
            return BAD;
        }
        int had = tape.length;
        tape.length = n;
        return had;
    }

    public int text() {
        int answer = reader.readTape();
        tape.length = 0;
        latestFault = reader.faultFound;
        if (latestFault == 0) {
            rules.copy(reader.rules);
            state.copy(reader.state);
            for (int k = 0; k < IMAGES; k++) {
                imageHeld[k] = false;
            }
        }
        return answer;
    }

    public int fault() {
        return latestFault;
    }

    public int rule(int what) {
        switch (what) {
            case 0: return rules.seats;
            case 1: return rules.stirs;
            case 2: return state.king;
            case 3: return state.days;
            case 4: return state.bone;
            default: return BAD;
        }
    }

    public int pot(int i) {
        return rules.hasSeat(i) ? state.pieces[i] : BAD;
    }

    public int one(int p, int what) {
        if (!rules.hasSeat(p)) {
            return BAD;
        }
        switch (what) {
            case 0: return state.friends[p];
            case 1: return state.spoons[p];
            case 2: return rules.need[p];
            case 3: return state.eaten[p];
            default: return BAD;
        }
    }

    public int stir(int r, int i) {
        return rules.hasStir(r) && rules.hasSeat(i) ? rules.placeAfter(r, i) : BAD;
    }

    // ---- what is changed

    public int befriend(int p, int friend, boolean is) {
        if (!rules.hasSeat(p) || !rules.hasSeat(friend) || p == friend) {
            return BAD;
        }
        int was = state.isFriend(p, friend) ? 1 : 0;
        state.setFriend(p, friend, is);
        return was;
    }

    public int spoon(int p, int v) {
        if (!rules.hasSeat(p) || v < 1 || v > MOST_SPOONS) {
            return BAD;
        }
        int was = state.spoons[p];
        state.spoons[p] = v;
        return was;
    }

    public int crown(int p) {
        if (!rules.hasSeat(p)) {
            return BAD;
        }
        int was = state.king;
        state.king = p;
        return was;
    }

    public int fill(int i, int v) {
        if (!rules.hasSeat(i) || v < 0 || v > MOST_PIECES) {
            return BAD;
        }
        int was = state.pieces[i];
        state.pieces[i] = v;
        return was;
    }

    // ---- days

    public int bowl(int k, int p, int r) {
        if (!rules.hasSeat(k) || !rules.hasSeat(p) || !rules.hasStir(r)) {
            return BAD;
        }
        kitchen.serve(k);
        kitchen.stirPot(r);
        return kitchen.bowlOf(k, p);
    }

    public int ladle(int k, int p, int r) {
        if (!rules.hasSeat(k) || !rules.hasSeat(p) || !rules.hasStir(r)) {
            return BAD;
        }
        kitchen.serve(k);
        return kitchen.placeOf(k, p);
    }

    public int next(int k, int r) {
        if (!rules.hasSeat(k) || !rules.hasStir(r)) {
            return BAD;
        }
        kitchen.serve(k);
        return kitchen.holderOf(k, rules.placeAfter(r, state.bone));
    }

    public int day(int r) {
        if (!rules.hasStir(r)) {
            return BAD;
        }
        if (state.days >= LAST_DAY) {
            return FULL;
        }
        kitchen.passDay(r);
        return state.king;
    }

    public int hungry() {
        int bits = 0;
        for (int p = 0; p < rules.seats; p++) {
            if (state.eaten[p] < rules.need[p] * state.days) {
                bits |= 1 << p;
            }
        }
        return bits;
    }

    // ---- luck, reigns

    public long chance(int p, int n, int what) {
        if (!rules.hasSeat(p) || n < 0 || n > MOST_LUCK_DAYS || !isPart(what)) {
            return BAD;
        }
        if (rules.stirs == 0) {
            return STATE;
        }
        return Luck.part(luck.rowsToCrown(p, n), Luck.power(rules.stirs, n), what);
    }

    public long lasts(int n, int what) {
        if (n < 0 || n > MOST_LUCK_DAYS || !isPart(what)) {
            return BAD;
        }
        if (rules.stirs == 0) {
            return STATE;
        }
        return Luck.part(luck.rowsOfReign(n), Luck.power(rules.stirs, n), what);
    }

    public int reign(int n, int what) {
        if (n < 1 || n > MOST_LUCK_DAYS || !isRowQuestion(what, MOST_LUCK_DAYS)) {
            return BAD;
        }
        if (rules.stirs == 0) {
            return STATE;
        }
        int longest = plans.planReign(n);
        return what == 0 ? longest : ofRow(plans.row, longest, what - ROW);
    }

    public int raise(int p, int what) {
        if (!rules.hasSeat(p) || !isRowQuestion(what, MOST_LUCK_DAYS)) {
            return BAD;
        }
        if (rules.stirs == 0) {
            return STATE;
        }
        int fewest = plans.planRaise(p);
        return what == 0 ? fewest : ofRow(plans.row, fewest, what - ROW);
    }

    // ---- coups

    public int coup(int k, int r, int what) {
        if (!rules.hasSeat(k) || !rules.hasStir(r) || !isPart(what)) {
            return BAD;
        }
        kitchen.serveAllKings();
        kitchen.stirPot(r);
        int leader = coups.leastLeader(k);
        if (leader == NONE || what == 0) {
            return leader;
        }
        return coups.leastBand(k, leader);
    }

    public int firm(int r) {
        if (!rules.hasStir(r)) {
            return BAD;
        }
        kitchen.serveAllKings();
        kitchen.stirPot(r);
        int bits = 0;
        for (int k = 0; k < rules.seats; k++) {
            if (coups.leastLeader(k) == NONE) {
                bits |= 1 << k;
            }
        }
        return bits;
    }

    // ---- seen

    public int see(int p) {
        if (!rules.hasSeat(p)) {
            return BAD;
        }
        if (state.seenDays >= MOST_SEEN) {
            return FULL;
        }
        state.seen[state.seenDays] = p;
        state.seenDays++;
        return state.seenDays;
    }

    public int forget(int n) {
        if (n < 0 || n > state.seenDays) {
            return BAD;
        }
        int were = state.seenDays;
        state.seenDays = n;
        return were;
    }

    public int histories(int what) {
        if (!isRowQuestion(what, MOST_SEEN)) {
            return BAD;
        }
        return what == 0 ? past.howMany() : past.firstStirOfDay(what - ROW);
    }

    public int could(int i) {
        if (i < 0 || i >= state.seenDays) {
            return BAD;
        }
        return past.stirsOfDay(i);
    }

    // ---- luck of one, fair stirs

    public long blind(int m, int n, int what) {
        if (n < 1 || n > MOST_TRIES || m < 0 || m > n || !isPart(what)) {
            return BAD;
        }
        return Luck.part(luck.triesWithFinds(m, n), Luck.power(rules.seats, n), what);
    }

    public int fair(int n, int what) {
        if (n < 1 || n > MOST_FAIR_DAYS || !isRowQuestion(what, MOST_FAIR_DAYS)) {
            return BAD;
        }
        if (rules.stirs == 0) {
            return STATE;
        }
        if (what >= ROW + n) {
            return NONE;
        }
        int spread = fairDays.leastSpread(n);
        return what == 0 ? spread : ofRow(fairDays.bestRow, n, what - ROW);
    }

    // ---- images, sheets

    public int keep(int k) {
        if (!isImage(k)) {
            return BAD;
        }
        int was = imageHeld[k] ? 1 : 0;
        images[k].copy(state);
        imageHeld[k] = true;
        return was;
    }

    public int back(int k) {
        if (!isImage(k)) {
            return BAD;
        }
        if (!imageHeld[k]) {
            return STATE;
        }
        state.copy(images[k]);
        return state.king;
    }

    public int sheet(int k, int lane, int n) {
        if (!isSheet(k) || !isLane(lane) || n > MOST_CELLS) {
            return BAD;
        }
        if (n < 0) {
            return -10 - SIZE_FAULT;
        }
        sheets[k].renew(lane, n);
        return 1;
    }

    public int lay(int k, int i, int v) {
        if (!isSheet(k)) {
            return BAD;
        }
        Sheet row = sheets[k];
        // What is laid is never cast: the row is taken as of its own lane.
        int refused = row.faultAt(row.lane, i);
        if (refused != 0) {
            return -10 - refused;
        }
        row.put(i, v);
        return 1;
    }

    public int read(int k, int lane, int f, int n) {
        if (!isSheet(k) || !isLane(lane) || n < 0 || n > MOST_READ_DAYS) {
            return BAD;
        }
        Sheet row = sheets[k];
        int tear = 0;
        int readable = 0;
        // A DAY that is refused undoes those ahead of it, so all are looked at before one goes.
        for (int i = 0; i < n && tear == 0; i++) {
            tear = row.faultAt(lane, f + i);
            if (tear == 0) {
                if (!canPass(row.cells[f + i], i)) {
                    return -20 - i;
                }
                readable = i + 1;
            }
        }
        for (int i = 0; i < readable; i++) {
            kitchen.passDay(row.cells[f + i]);
        }
        latestTear = tear;
        return readable;
    }

    public int torn() {
        return latestTear;
    }

    public int count(int what) {
        switch (what) {
            case 0: return state.seenDays;
            case 1: return (imageHeld[0] ? 1 : 0) + (imageHeld[1] ? 1 : 0);
            case 2: return tape.length;
            case 3: return sheets[0].isNothing() ? NONE : sheets[0].size;
            case 4: return piecesInPot();
            default: return BAD;
        }
    }

    private int piecesInPot() {
        int sum = 0;
        for (int i = 0; i < rules.seats; i++) {
            sum += state.pieces[i];
        }
        return sum;
    }

    /** Whether day(r) would be taken, were so many DAYS ahead of it. */
    private boolean canPass(int r, int ahead) {
        return rules.hasStir(r) && state.days + ahead < LAST_DAY;
    }

    private static boolean isPart(int what) {
        return what == 0 || what == 1;
    }

    private static boolean isRowQuestion(int what, int longest) {
        return what == 0 || (what >= ROW && what < ROW + longest);
    }

    private static int ofRow(int[] row, int length, int i) {
        return i >= 0 && i < length && i < row.length ? row[i] : NONE;
    }

    private static boolean isImage(int k) {
        return k >= 0 && k < IMAGES;
    }

    private static boolean isSheet(int k) {
        return k >= 0 && k < SHEETS;
    }

    private static boolean isLane(int lane) {
        return lane >= 0 && lane < LANES;
    }

    /** What a text alone can change: SEATS, NEED, STIRS. */
    private static final class Rules {
        int seats = FIRST_SEATS;
        int stirs = 0;
        final int[] need = new int[MOST_SEATS];
        private final int[] kind = new int[MOST_STIRS];
        private final int[] first = new int[MOST_STIRS];
        private final int[] second = new int[MOST_STIRS];
        /** By STIR and PLACE; worked out once, as searches ask for it most of all. */
        private final int[] after = new int[MOST_STIRS * MOST_SEATS];

        void reset() {
            seats = FIRST_SEATS;
            stirs = 0;
            Arrays.fill(need, 0);
        }

        void copy(Rules other) {
            seats = other.seats;
            stirs = other.stirs;
            System.arraycopy(other.need, 0, need, 0, MOST_SEATS);
            System.arraycopy(other.after, 0, after, 0, MOST_STIRS * MOST_SEATS);
        }

        /** As there are as many LAYERS as SEATS, this tells of a PLACE, too. */
        boolean hasSeat(int p) {
            return p >= 0 && p < seats;
        }

        boolean hasStir(int r) {
            return r >= 0 && r < stirs;
        }

        void addStir(int itsKind, int a, int b) {
            if (stirs < MOST_STIRS) {
                kind[stirs] = itsKind;
                first[stirs] = a;
                second[stirs] = b;
                stirs++;
            }
        }

        /** To be called when SEATS and STIRS are known, as seats may be told behind the STIRS. */
        void workOutStirs() {
            for (int r = 0; r < stirs; r++) {
                for (int i = 0; i < seats; i++) {
                    after[r * MOST_SEATS + i] = workOut(r, i);
                }
            }
        }

        private int workOut(int r, int i) {
            switch (kind[r]) {
                case TURN: return inRing(i + first[r]);
                case FLIP: return seats - 1 - i;
                case SWAP: return swapped(i, first[r], second[r]);
                default: return lifted(i, first[r]);
            }
        }

        private static int swapped(int i, int a, int b) {
            if (i == a) {
                return b;
            }
            return i == b ? a : i;
        }

        private static int lifted(int i, int a) {
            if (i == a) {
                return 0;
            }
            return i < a ? i + 1 : i;
        }

        int inRing(int i) {
            int left = i;
            for (int n = 0; n < MOST_SEATS && left >= seats; n++) {
                left -= seats;
            }
            return left;
        }

        int placeAfter(int r, int i) {
            return after[r * MOST_SEATS + i];
        }

        void stirInto(int r, int[] from, int[] to) {
            for (int i = 0; i < seats; i++) {
                to[placeAfter(r, i)] = from[i];
            }
        }
    }

    /** What calls can change, and an IMAGE holds. */
    private static final class State {
        final int[] pieces = new int[MOST_SEATS];
        final int[] friends = new int[MOST_SEATS];
        final int[] spoons = new int[MOST_SEATS];
        final int[] eaten = new int[MOST_SEATS];
        final int[] seen = new int[MOST_SEEN];
        int seenDays = 0;
        int bone = 0;
        int king = 0;
        int days = 0;

        State() {
            Arrays.fill(spoons, 1);
        }

        void reset() {
            Arrays.fill(pieces, 0);
            Arrays.fill(friends, 0);
            Arrays.fill(spoons, 1);
            Arrays.fill(eaten, 0);
            seenDays = 0;
            bone = 0;
            king = 0;
            days = 0;
        }

        void copy(State other) {
            System.arraycopy(other.pieces, 0, pieces, 0, MOST_SEATS);
            System.arraycopy(other.friends, 0, friends, 0, MOST_SEATS);
            System.arraycopy(other.spoons, 0, spoons, 0, MOST_SEATS);
            System.arraycopy(other.eaten, 0, eaten, 0, MOST_SEATS);
            System.arraycopy(other.seen, 0, seen, 0, MOST_SEEN);
            seenDays = other.seenDays;
            bone = other.bone;
            king = other.king;
            days = other.days;
        }

        boolean isFriend(int whose, int who) {
            return ((friends[whose] >> who) & 1) != 0;
        }

        void setFriend(int whose, int who, boolean is) {
            if (is) {
                friends[whose] |= 1 << who;
            } else {
                friends[whose] &= ~(1 << who);
            }
        }
    }

    /** THE TAPE, and the TOKENS that are read of it. */
    private static final class Tape {
        static final int END = 0, NAME = 1, NUMBER = 2, SIGN = 3, BROKEN = 4;
        private static final int LONGEST_NUMBER = 2;

        private final byte[] bytes = new byte[TAPE_BYTES];
        int length = 0;
        private int at = 0;
        /** The latest TOKEN: what it is, its first byte, of a NUMBER what it tells. */
        int token = END;
        int start = 0;
        int value = 0;

        boolean append(long v) {
            if (length + 8 > TAPE_BYTES) {
                return false;
            }
            for (int shift = 56; shift >= 0; shift -= 8) {
                bytes[length] = (byte) (v >> shift);
                length++;
            }
            return true;
        }

        void rewind() {
            at = 0;
        }

        void readToken() {
            while (at < length && bytes[at] == ' ') {
                at++;
            }
            start = at;
            if (at >= length) {
                token = END;
            } else if (isLetter(bytes[at])) {
                readName();
            } else if (isFigure(bytes[at])) {
                readFigures();
            } else if (bytes[at] == ';') {
                at++;
                token = SIGN;
            } else {
                token = BROKEN;
            }
        }

        private void readName() {
            while (at < length && isLetter(bytes[at])) {
                at++;
            }
            token = NAME;
        }

        private void readFigures() {
            value = 0;
            while (at < length && isFigure(bytes[at])) {
                value = value * 10 + (bytes[at] - '0');
                at++;
            }
            token = at - start > LONGEST_NUMBER ? BROKEN : NUMBER;
        }

        /** Whether the NAME that was read last is this one. */
        boolean isNamed(String name) {
            if (at - start != name.length()) {
                return false;
            }
            for (int i = 0; i < name.length(); i++) {
                if (bytes[start + i] != name.charAt(i)) {
                    return false;
                }
            }
            return true;
        }

        private static boolean isLetter(int c) {
            return c >= 'a' && c <= 'z';
        }

        private static boolean isFigure(int c) {
            return c >= '0' && c <= '9';
        }
    }

    /** Reads a text into rules and a state of its own, so that a FAULT leaves what was told before. */
    private static final class TextReader {
        private static final int SEATS = 0, POT = 1, BONE = 2, KING = 3, FRIEND = 4, SPOONS = 5, NEED = 6;
        private static final int LINE_NAMES = 11;
        private static final int NO_TOKEN = 1, MISPLACED = 2, OUT_OF_BOUNDS = 3, AGAIN = 4, TOO_MANY = 5, ABSENT = 6;
        /** By NAME, in the order of the numbers above: how many NUMBERS a line has, and their bounds. */
        private static final int[] FEWEST = {1, 1, 1, 1, 2, 2, 2, 1, 0, 2, 1};
        private static final int[] MOST = {1, 7, 1, 1, 2, 2, 2, 1, 0, 2, 1};
        private static final int[] FIRST_LOW = {2, 0, 0, 0, 0, 0, 0, 1, 0, 0, 1};
        private static final int[] FIRST_HIGH = {7, 9, 6, 6, 6, 6, 6, 6, 0, 6, 6};
        private static final int[] LATER_LOW = {0, 0, 0, 0, 0, 1, 0, 0, 0, 0, 0};
        private static final int[] LATER_HIGH = {0, 9, 0, 0, 6, 9, 9, 0, 0, 6, 0};

        private final Tape tape;
        final Rules rules = new Rules();
        final State state = new State();
        int faultFound = 0;
        private int faultPlace = 0;
        private int lines = 0;
        /** Bits of the NAMES that were met. */
        private int met = 0;
        /** The greatest SEAT or PLACE told; whether it is there is known at the end alone. */
        private int greatest = 0;
        /** The NUMBERS of the line that is read. */
        private final int[] numbers = new int[MOST_SEATS];

        TextReader(Tape itsTape) {
            tape = itsTape;
        }

        /** How many lines, or -10 less the place of the FAULT. */
        int readTape() {
            begin();
            boolean more = true;
            for (int i = 0; i <= TAPE_BYTES && more; i++) {
                more = readLine();
            }
            if (faultFound == 0 && greatest >= rules.seats) {
                refuse(ABSENT, tape.length);
            }
            if (faultFound != 0) {
                return -10 - faultPlace;
            }
            rules.workOutStirs();
            return lines;
        }

        private void begin() {
            rules.reset();
            state.reset();
            tape.rewind();
            faultFound = 0;
            lines = 0;
            met = 0;
            greatest = 0;
        }

        private boolean refuse(int fault, int place) {
            faultFound = fault;
            faultPlace = place;
            return false;
        }

        /** Whether a line was read: not at the end, nor by a FAULT. */
        private boolean readLine() {
            tape.readToken();
            if (tape.token == Tape.END) {
                return false;
            }
            int name = nameRead();
            int fault = faultOfName(name);
            if (fault != 0) {
                return refuse(fault, tape.start);
            }
            met |= 1 << name;
            for (int n = 0; n <= MOST[name]; n++) {
                tape.readToken();
                if (tape.token == Tape.SIGN && n >= FEWEST[name]) {
                    takeLine(name, n);
                    return true;
                }
                fault = faultOfNumber(name, n);
                if (fault != 0) {
                    return refuse(fault, tape.start);
                }
                numbers[n] = tape.value;
            }
            return false;
        }

        /** NONE, if the TOKEN is no NAME, or one that begins no line. */
        private int nameRead() {
            for (int name = 0; name < LINE_NAMES && tape.token == Tape.NAME; name++) {
                if (tape.isNamed(nameOf(name))) {
                    return name;
                }
            }
            return NONE;
        }

        private static String nameOf(int name) {
            switch (name) {
                case SEATS: return "seats";
                case POT: return "pot";
                case BONE: return "bone";
                case KING: return "king";
                case FRIEND: return "friend";
                case SPOONS: return "spoons";
                case NEED: return "need";
                case TURN: return "turn";
                case FLIP: return "flip";
                case SWAP: return "swap";
                default: return "lift";
            }
        }

        private int faultOfName(int name) {
            if (tape.token == Tape.BROKEN) {
                return NO_TOKEN;
            }
            if (name == NONE) {
                return MISPLACED;
            }
            if (name <= KING && ((met >> name) & 1) != 0) {
                return AGAIN;
            }
            return name >= TURN && rules.stirs >= MOST_STIRS ? TOO_MANY : 0;
        }

        /** Of the TOKEN that stands where the line has n NUMBERS; 0: it is one that can come now. */
        private int faultOfNumber(int name, int n) {
            if (tape.token == Tape.BROKEN) {
                return NO_TOKEN;
            }
            boolean mayFollow = n < MOST[name] || name == POT;
            if (tape.token != Tape.NUMBER || !mayFollow) {
                return MISPLACED;
            }
            int low = n == 0 ? FIRST_LOW[name] : LATER_LOW[name];
            int high = n == 0 ? FIRST_HIGH[name] : LATER_HIGH[name];
            if (tape.value < low || tape.value > high) {
                return OUT_OF_BOUNDS;
            }
            if (n == 1 && isAgain(name)) {
                return AGAIN;
            }
            return n >= MOST[name] ? TOO_MANY : 0;
        }

        private boolean isAgain(int name) {
            boolean alike = tape.value == numbers[0];
            if (name == FRIEND) {
                return alike || state.isFriend(numbers[0], tape.value);
            }
            return name == SWAP && alike;
        }

        private void takeLine(int name, int n) {
            lines++;
            int a = numbers[0];
            int b = numbers[1];
            switch (name) {
                case SEATS:
                    rules.seats = a;
                    break;
                case POT:
                    System.arraycopy(numbers, 0, state.pieces, 0, n);
                    heed(n - 1);
                    break;
                case BONE:
                    state.bone = a;
                    heed(a);
                    break;
                case KING:
                    state.king = a;
                    heed(a);
                    break;
                case FRIEND:
                    state.setFriend(a, b, true);
                    heed(Math.max(a, b));
                    break;
                case SPOONS:
                    state.spoons[a] = b;
                    heed(a);
                    break;
                case NEED:
                    rules.need[a] = b;
                    heed(a);
                    break;
                default:
                    takeStir(name, a, b);
            }
        }

        private void takeStir(int name, int a, int b) {
            rules.addStir(name, a, b);
            if (name == SWAP) {
                heed(Math.max(a, b));
            } else if (name == LIFT) {
                heed(a);
            }
        }

        private void heed(int seatOrPlace) {
            greatest = Math.max(greatest, seatOrPlace);
        }
    }

    /** Who gets which LAYER. Which PLACE is whose hangs on THE KING and his FRIENDS, on no STIR. */
    private static final class Kitchen {
        final Rules rules;
        final State state;
        /** By KING and SEAT. */
        private final int[] places = new int[MOST_SEATS * MOST_SEATS];
        /** By KING and PLACE. */
        private final int[] holders = new int[MOST_SEATS * MOST_SEATS];
        private final int[] stirred = new int[MOST_SEATS];

        Kitchen(Rules itsRules, State itsState) {
            rules = itsRules;
            state = itsState;
        }

        void serve(int king) {
            int highest = 0;
            int lowest = rules.seats - 1;
            for (int i = 0; i < rules.seats; i++) {
                int p = rules.inRing(king + i);
                int place;
                if (p == king || state.isFriend(king, p)) {
                    place = lowest;
                    lowest--;
                } else {
                    place = highest;
                    highest++;
                }
                places[king * MOST_SEATS + p] = place;
                holders[king * MOST_SEATS + place] = p;
            }
        }

        void serveAllKings() {
            for (int king = 0; king < rules.seats; king++) {
                serve(king);
            }
        }

        /** As by the latest serve() of that KING. */
        int placeOf(int king, int p) {
            return places[king * MOST_SEATS + p];
        }

        /** As by the latest serve() of that KING. */
        int holderOf(int king, int place) {
            return holders[king * MOST_SEATS + place];
        }

        void stirPot(int r) {
            rules.stirInto(r, state.pieces, stirred);
        }

        /** As by the latest serve() of that KING and the latest stirPot(). */
        int bowlOf(int king, int p) {
            return stirred[placeOf(king, p)];
        }

        void passDay(int r) {
            int king = state.king;
            serve(king);
            stirPot(r);
            System.arraycopy(stirred, 0, state.pieces, 0, rules.seats);
            state.bone = rules.placeAfter(r, state.bone);
            for (int p = 0; p < rules.seats; p++) {
                state.eaten[p] += bowlOf(king, p);
            }
            state.king = holderOf(king, state.bone);
            state.days++;
        }
    }

    /** Counts rows of STIRS. Who is KING hangs on the KING and the PLACE of the BONE before, on no PIECES. */
    private static final class Luck {
        private static final int PAIRS = MOST_SEATS * MOST_SEATS;
        /** Far above the steps that Euclid's way takes for two longs. */
        private static final int MOST_EUCLID_STEPS = 200;

        private final Kitchen kitchen;
        /** Rows by KING and PLACE of the BONE. */
        private final long[] rows = new long[PAIRS];
        private final long[] later = new long[PAIRS];
        private final long[] finds = new long[MOST_TRIES + 1];

        Luck(Kitchen itsKitchen) {
            kitchen = itsKitchen;
        }

        long rowsToCrown(int p, int n) {
            begin();
            for (int i = 0; i < n; i++) {
                goOn(false);
            }
            return rowsWithKing(p);
        }

        long rowsOfReign(int n) {
            begin();
            for (int i = 0; i < n; i++) {
                goOn(true);
            }
            return rowsWithKing(kitchen.state.king);
        }

        private void begin() {
            kitchen.serveAllKings();
            Arrays.fill(rows, 0);
            rows[kitchen.state.king * MOST_SEATS + kitchen.state.bone] = 1;
        }

        private void goOn(boolean sameKing) {
            Arrays.fill(later, 0);
            for (int king = 0; king < kitchen.rules.seats; king++) {
                for (int bone = 0; bone < kitchen.rules.seats; bone++) {
                    if (rows[king * MOST_SEATS + bone] != 0) {
                        goOnFrom(king, bone, sameKing);
                    }
                }
            }
            System.arraycopy(later, 0, rows, 0, PAIRS);
        }

        private void goOnFrom(int king, int bone, boolean sameKing) {
            for (int r = 0; r < kitchen.rules.stirs; r++) {
                int place = kitchen.rules.placeAfter(r, bone);
                int crowned = kitchen.holderOf(king, place);
                if (crowned == king || !sameKing) {
                    later[crowned * MOST_SEATS + place] += rows[king * MOST_SEATS + bone];
                }
            }
        }

        private long rowsWithKing(int p) {
            long sum = 0;
            for (int bone = 0; bone < kitchen.rules.seats; bone++) {
                sum += rows[p * MOST_SEATS + bone];
            }
            return sum;
        }

        /** Of all rows of n tries among SEATS, those with m finds or more. */
        long triesWithFinds(int m, int n) {
            Arrays.fill(finds, 0);
            finds[0] = 1;
            for (int i = 1; i <= n; i++) {
                for (int j = i; j > 0; j--) {
                    finds[j] = finds[j] * (kitchen.rules.seats - 1) + finds[j - 1];
                }
                finds[0] *= kitchen.rules.seats - 1;
            }
            long sum = 0;
            for (int j = m; j <= n; j++) {
                sum += finds[j];
            }
            return sum;
        }

        static long power(int base, int n) {
            long answer = 1;
            for (int i = 0; i < n; i++) {
                answer *= base;
            }
            return answer;
        }

        /** The numerator (0) or the denominator (1) in lowest terms. */
        static long part(long numerator, long denominator, int what) {
            long divisor = greatestDivisor(numerator, denominator);
            if (divisor == 0) {
                return what;
            }
            return what == 0 ? numerator / divisor : denominator / divisor;
        }

        private static long greatestDivisor(long a, long b) {
            long great = a;
            long small = b;
            for (int i = 0; i < MOST_EUCLID_STEPS && small != 0; i++) {
                long rest = great % small;
                great = small;
                small = rest;
            }
            return great;
        }
    }

    /** The first row of STIRS by which THE KING stays longest, or another one becomes KING soonest. */
    private static final class Plans {
        private final Kitchen kitchen;
        /** By DAYS to go: bits of the pairs (KING, PLACE of the BONE) from which it can be done. */
        private final long[] good = new long[MOST_LUCK_DAYS + 1];
        final int[] row = new int[MOST_LUCK_DAYS];

        Plans(Kitchen itsKitchen) {
            kitchen = itsKitchen;
        }

        /** How many DAYS the longest REIGN up to n DAYS has; its row is told, too. */
        int planReign(int n) {
            kitchen.serveAllKings();
            good[0] = allPairs();
            int longest = 0;
            for (int days = 1; days <= n; days++) {
                good[days] = pairsBefore(good[days - 1], true);
                if (isGoodNow(days)) {
                    longest = days;
                }
            }
            tellRow(longest, true);
            return longest;
        }

        /** The fewest DAYS until p is KING, or NONE; their row is told, too. */
        int planRaise(int p) {
            kitchen.serveAllKings();
            good[0] = pairsOfKing(p);
            for (int days = 0; days <= MOST_LUCK_DAYS; days++) {
                if (days > 0) {
                    good[days] = pairsBefore(good[days - 1], false);
                }
                if (isGoodNow(days)) {
                    tellRow(days, false);
                    return days;
                }
            }
            return NONE;
        }

        private static long bitOf(int king, int bone) {
            return 1L << (king * MOST_SEATS + bone);
        }

        private long pairsOfKing(int king) {
            long bits = 0;
            for (int bone = 0; bone < kitchen.rules.seats; bone++) {
                bits |= bitOf(king, bone);
            }
            return bits;
        }

        private long allPairs() {
            long bits = 0;
            for (int king = 0; king < kitchen.rules.seats; king++) {
                bits |= pairsOfKing(king);
            }
            return bits;
        }

        private boolean isGoodNow(int days) {
            return (good[days] & bitOf(kitchen.state.king, kitchen.state.bone)) != 0;
        }

        private long pairsBefore(long pairs, boolean sameKing) {
            long bits = 0;
            for (int king = 0; king < kitchen.rules.seats; king++) {
                for (int bone = 0; bone < kitchen.rules.seats; bone++) {
                    if (firstStirInto(pairs, king, bone, sameKing) != NONE) {
                        bits |= bitOf(king, bone);
                    }
                }
            }
            return bits;
        }

        private int firstStirInto(long pairs, int king, int bone, boolean sameKing) {
            for (int r = 0; r < kitchen.rules.stirs; r++) {
                int place = kitchen.rules.placeAfter(r, bone);
                int crowned = kitchen.holderOf(king, place);
                if ((crowned == king || !sameKing) && (pairs & bitOf(crowned, place)) != 0) {
                    return r;
                }
            }
            return NONE;
        }

        private void tellRow(int days, boolean sameKing) {
            int king = kitchen.state.king;
            int bone = kitchen.state.bone;
            for (int i = 0; i < days; i++) {
                int r = firstStirInto(good[days - 1 - i], king, bone, sameKing);
                if (!kitchen.rules.hasStir(r)) {
                    return;
                }
                row[i] = r;
                bone = kitchen.rules.placeAfter(r, bone);
                king = kitchen.holderOf(king, bone);
            }
        }
    }

    /** COUPS on a DAY; the kitchen has served all KINGS and stirred THE POT before. */
    private static final class Coups {
        private final Kitchen kitchen;

        Coups(Kitchen itsKitchen) {
            kitchen = itsKitchen;
        }

        int leastLeader(int k) {
            for (int c = 0; c < kitchen.rules.seats; c++) {
                if (c != k && canLead(c, k)) {
                    return c;
                }
            }
            return NONE;
        }

        /** All who rise together have the most SPOONS, so no smaller band need be tried. */
        private boolean canLead(int c, int k) {
            int risers = whoRise(c, k);
            return ((risers >> c) & 1) != 0 && isEnough(risers);
        }

        private int whoRise(int c, int k) {
            int bits = 0;
            for (int p = 0; p < kitchen.rules.seats; p++) {
                if (kitchen.bowlOf(c, p) > kitchen.bowlOf(k, p)) {
                    bits |= 1 << p;
                }
            }
            return bits;
        }

        private boolean isEnough(int band) {
            int theirs = 0;
            int all = 0;
            for (int p = 0; p < kitchen.rules.seats; p++) {
                all += kitchen.state.spoons[p];
                if (((band >> p) & 1) != 0) {
                    theirs += kitchen.state.spoons[p];
                }
            }
            return theirs * 2 > all;
        }

        /** A bit outweighs all below it, so the highest ones are left out wherever the rest is enough. */
        int leastBand(int k, int c) {
            int band = whoRise(c, k);
            for (int p = kitchen.rules.seats - 1; p >= 0; p--) {
                int without = band & ~(1 << p);
                if (p != c && isEnough(without)) {
                    band = without;
                }
            }
            return band;
        }
    }

    /** HISTORIES. Who is KING next tells to which PLACE the BONE was brought, so each DAY stands by itself. */
    private static final class Past {
        private final Kitchen kitchen;
        /** By DAY: bits of the STIRS by which the one who was SEEN is KING behind it. */
        private final int[] fitting = new int[MOST_SEEN];

        Past(Kitchen itsKitchen) {
            kitchen = itsKitchen;
        }

        int howMany() {
            int many = 1;
            int king = kitchen.state.king;
            int bone = kitchen.state.bone;
            for (int i = 0; i < kitchen.state.seenDays; i++) {
                int crowned = kitchen.state.seen[i];
                kitchen.serve(king);
                int place = kitchen.placeOf(king, crowned);
                fitting[i] = stirsBringing(bone, place);
                many *= Integer.bitCount(fitting[i]);
                king = crowned;
                bone = place;
            }
            return many;
        }

        /** Bits of the STIRS that bring a LAYER from one PLACE to another. */
        private int stirsBringing(int from, int to) {
            int bits = 0;
            for (int r = 0; r < kitchen.rules.stirs; r++) {
                if (kitchen.rules.placeAfter(r, from) == to) {
                    bits |= 1 << r;
                }
            }
            return bits;
        }

        /** Bits of the STIRS that DAY i can have had; none, if one of the DAYS can have had none. */
        int stirsOfDay(int i) {
            boolean isThere = i >= 0 && i < kitchen.state.seenDays;
            return isThere && howMany() > 0 ? fitting[i] : 0;
        }

        /** Of the first HISTORY; NONE, if there is none, or not so many DAYS. */
        int firstStirOfDay(int i) {
            int could = stirsOfDay(i);
            for (int r = 0; r < kitchen.rules.stirs; r++) {
                if (((could >> r) & 1) != 0) {
                    return r;
                }
            }
            return NONE;
        }
    }

    /** The first row of STIRS by which what all get is most alike. */
    private static final class FairDays {
        private static final int LEVELS = MOST_FAIR_DAYS + 1;
        /** Five STIRS for each of four DAYS. */
        private static final int MOST_ROWS = 625;

        private final Kitchen kitchen;
        /** As it is before each DAY of the row: by DAY and PLACE, by DAY and SEAT, by DAY. */
        private final int[] pots = new int[LEVELS * MOST_SEATS];
        private final int[] sums = new int[LEVELS * MOST_SEATS];
        private final int[] kings = new int[LEVELS];
        private final int[] bones = new int[LEVELS];
        private final int[] row = new int[MOST_FAIR_DAYS];
        final int[] bestRow = new int[MOST_FAIR_DAYS];
        private int days = 0;
        private int least = 0;

        FairDays(Kitchen itsKitchen) {
            kitchen = itsKitchen;
        }

        int leastSpread(int n) {
            begin(Math.min(n, MOST_FAIR_DAYS));
            int changed = 0;
            for (int i = 0; i < MOST_ROWS && changed != NONE; i++) {
                // The DAYS ahead of the one that changed are as they were.
                for (int level = changed; level < days; level++) {
                    goOn(level);
                }
                weigh();
                changed = nextRow();
            }
            return least;
        }

        private void begin(int n) {
            kitchen.serveAllKings();
            days = n;
            least = NONE;
            System.arraycopy(kitchen.state.pieces, 0, pots, 0, kitchen.rules.seats);
            Arrays.fill(sums, 0);
            Arrays.fill(row, 0);
            kings[0] = kitchen.state.king;
            bones[0] = kitchen.state.bone;
        }

        private void goOn(int level) {
            int r = row[level];
            int king = kings[level];
            int from = level * MOST_SEATS;
            int to = from + MOST_SEATS;
            for (int i = 0; i < kitchen.rules.seats; i++) {
                pots[to + kitchen.rules.placeAfter(r, i)] = pots[from + i];
            }
            for (int p = 0; p < kitchen.rules.seats; p++) {
                sums[to + p] = sums[from + p] + pots[to + kitchen.placeOf(king, p)];
            }
            bones[level + 1] = kitchen.rules.placeAfter(r, bones[level]);
            kings[level + 1] = kitchen.holderOf(king, bones[level + 1]);
        }

        private void weigh() {
            int greatest = sums[days * MOST_SEATS];
            int smallest = greatest;
            for (int p = 1; p < kitchen.rules.seats; p++) {
                greatest = Math.max(greatest, sums[days * MOST_SEATS + p]);
                smallest = Math.min(smallest, sums[days * MOST_SEATS + p]);
            }
            if (least == NONE || greatest - smallest < least) {
                least = greatest - smallest;
                System.arraycopy(row, 0, bestRow, 0, days);
            }
        }

        /** The first DAY at which the next row is another one; NONE behind the last row. */
        private int nextRow() {
            for (int i = days - 1; i >= 0; i--) {
                if (row[i] + 1 < kitchen.rules.stirs) {
                    row[i]++;
                    return i;
                }
                row[i] = 0;
            }
            return NONE;
        }
    }

    /** A row of CELLS of a lane, or nothing. The FAULTS of the machine are found before it could. */
    private static final class Sheet {
        private static final int BYTES = 0, SHORTS = 1;

        int lane = NONE;
        int size = 0;
        /** One row for every lane, made once; CELLS hold what their lane can. */
        final int[] cells = new int[MOST_CELLS];

        boolean isNothing() {
            return lane == NONE;
        }

        void renew(int itsLane, int n) {
            lane = itsLane;
            size = n;
            Arrays.fill(cells, 0);
        }

        /** What the machine finds at CELL i, taken as of a lane; 0. Nothing can be cast to any lane. */
        int faultAt(int asLane, int i) {
            if (isNothing()) {
                return NULL_FAULT;
            }
            if (asLane != lane) {
                return CAST_FAULT;
            }
            return i < 0 || i >= size ? INDEX_FAULT : 0;
        }

        /** To be called behind faultAt() alone. */
        void put(int i, int v) {
            switch (lane) {
                case BYTES:
                    cells[i] = (byte) v;
                    break;
                case SHORTS:
                    cells[i] = (short) v;
                    break;
                default:
                    cells[i] = v;
            }
        }
    }
}
