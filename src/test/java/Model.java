import java.math.BigInteger;
import java.util.ArrayList;
import java.util.Collections;
import java.util.LinkedHashMap;
import java.util.List;
import java.util.Map;
import java.util.regex.Matcher;
import java.util.regex.Pattern;

/** The document once more, as plainly as may be and with whole pots carried along, to compare answers with. */
final class Model {
    /** A LAYER is an int: its PIECES, and 100 if it has the BONE. */
    static final class Table {
        List<Integer> pot = new ArrayList<>();
        int king = 0;

        Table() { }

        Table(Table other) {
            pot.addAll(other.pot);
            king = other.king;
        }

        String key() {
            return pot + " " + king;
        }
    }

    static final class Told {
        int seats = 4;
        int[] friends = new int[7];
        int[] spoons = {1, 1, 1, 1, 1, 1, 1};
        int[] need = new int[7];
        int[] eaten = new int[7];
        int days = 0;
        Table table = new Table();
        List<int[]> stirs = new ArrayList<>();
        List<Integer> seen = new ArrayList<>();

        Told copy() {
            Told t = new Told();
            t.seats = seats;
            t.friends = friends.clone();
            t.spoons = spoons.clone();
            t.need = need.clone();
            t.eaten = eaten.clone();
            t.days = days;
            t.table = new Table(table);
            t.stirs.addAll(stirs);
            t.seen.addAll(seen);
            return t;
        }
    }

    Told t = new Told();
    String tape = "";
    int latestFault = 0;
    int latestTear = 0;
    Told[] images = new Told[2];
    Object[] sheets = new Object[4];

    Model() {
        t.table.pot.addAll(List.of(100, 0, 0, 0));
    }

    // ---- the text

    public int feed(long v) {
        if (tape.length() > 312) {
            return -3;
        }
        StringBuilder b = new StringBuilder(tape);
        for (int i = 7; i >= 0; i--) {
            b.append((char) ((v >>> (8 * i)) & 255));
        }
        tape = b.toString();
        return tape.length();
    }

    public int end(int n) {
        if (n < 0 || n > tape.length()) {
            return -1;
        }
        int had = tape.length();
        tape = tape.substring(0, n);
        return had;
    }

    static final class Fault extends RuntimeException {
        private static final long serialVersionUID = 1;
        final int kind;
        final int place;

        Fault(int kind, int place) {
            this.kind = kind;
            this.place = place;
        }
    }

    private static final Pattern TOKEN = Pattern.compile(" *([a-z]+|[0-9]+|;|$|.)", Pattern.DOTALL);
    private Matcher tokens;
    private String token;
    private int place;

    private void token() {
        tokens.lookingAt();
        token = tokens.group(1);
        place = tokens.start(1);
        tokens.region(tokens.end(), tape.length());
        boolean good = token.isEmpty() || token.matches("[a-z]+|[0-9]{1,2}|;");
        if (!good) {
            throw new Fault(1, place);
        }
    }

    private int number(int low, int high) {
        if (!token.matches("[0-9]+")) {
            throw new Fault(2, place);
        }
        int v = Integer.parseInt(token);
        if (v < low || v > high) {
            throw new Fault(3, place);
        }
        return v;
    }

    private int readNumber(int low, int high) {
        token();
        return number(low, high);
    }

    private void readSign() {
        token();
        if (!token.equals(";")) {
            throw new Fault(2, place);
        }
    }

    private void once(List<String> met) {
        if (met.contains(token)) {
            throw new Fault(4, place);
        }
        met.add(token);
    }

    public int text() {
        try {
            Told made = new Told();
            int lines = parse(made);
            t = made;
            images = new Told[2];
            latestFault = 0;
            return lines;
        } catch (Fault f) {
            latestFault = f.kind;
            return -10 - f.place;
        } finally {
            tape = "";
        }
    }

    private int parse(Told made) {
        tokens = TOKEN.matcher(tape);
        List<String> met = new ArrayList<>();
        List<Integer> pot = new ArrayList<>();
        List<Integer> indices = new ArrayList<>();
        int bone = 0;
        int lines = 0;
        for (token(); !token.isEmpty(); token()) {
            lines++;
            switch (token) {
                case "seats" -> {
                    once(met);
                    made.seats = readNumber(2, 7);
                    readSign();
                }
                case "pot" -> {
                    once(met);
                    pot.add(readNumber(0, 9));
                    for (token(); !token.equals(";"); token()) {
                        int v = number(0, 9);
                        if (pot.size() == 7) {
                            throw new Fault(5, place);
                        }
                        pot.add(v);
                    }
                    indices.add(pot.size() - 1);
                }
                case "bone" -> {
                    once(met);
                    bone = readNumber(0, 6);
                    indices.add(bone);
                    readSign();
                }
                case "king" -> {
                    once(met);
                    made.table.king = readNumber(0, 6);
                    indices.add(made.table.king);
                    readSign();
                }
                case "friend" -> {
                    int whose = readNumber(0, 6);
                    int who = readNumber(0, 6);
                    if (whose == who || (made.friends[whose] & (1 << who)) != 0) {
                        throw new Fault(4, place);
                    }
                    made.friends[whose] += 1 << who;
                    indices.addAll(List.of(whose, who));
                    readSign();
                }
                case "spoons" -> {
                    int p = readNumber(0, 6);
                    made.spoons[p] = readNumber(1, 9);
                    indices.add(p);
                    readSign();
                }
                case "need" -> {
                    int p = readNumber(0, 6);
                    made.need[p] = readNumber(0, 9);
                    indices.add(p);
                    readSign();
                }
                case "turn", "flip", "swap", "lift" -> {
                    if (made.stirs.size() == 5) {
                        throw new Fault(5, place);
                    }
                    made.stirs.add(parseStir(token, indices));
                    readSign();
                }
                default -> throw new Fault(2, place);
            }
        }
        if (!indices.isEmpty() && Collections.max(indices) >= made.seats) {
            throw new Fault(6, tape.length());
        }
        for (int i = 0; i < made.seats; i++) {
            made.table.pot.add((i < pot.size() ? pot.get(i) : 0) + (i == bone ? 100 : 0));
        }
        return lines;
    }

    private int[] parseStir(String name, List<Integer> indices) {
        switch (name) {
            case "turn":
                return new int[] {0, readNumber(1, 6), 0};
            case "flip":
                return new int[] {1, 0, 0};
            case "swap":
                int a = readNumber(0, 6);
                int b = readNumber(0, 6);
                if (a == b) {
                    throw new Fault(4, place);
                }
                indices.addAll(List.of(a, b));
                return new int[] {2, a, b};
            default:
                int from = readNumber(1, 6);
                indices.add(from);
                return new int[] {3, from, 0};
        }
    }

    public int fault() {
        return latestFault;
    }

    private boolean seat(int p) {
        return p >= 0 && p < t.seats;
    }

    private boolean isStir(int r) {
        return r >= 0 && r < t.stirs.size();
    }

    private static int bonePlace(List<Integer> pot) {
        for (int i = 0; i < pot.size(); i++) {
            if (pot.get(i) >= 100) {
                return i;
            }
        }
        throw new IllegalStateException("no bone");
    }

    public int rule(int what) {
        switch (what) {
            case 0: return t.seats;
            case 1: return t.stirs.size();
            case 2: return t.table.king;
            case 3: return t.days;
            case 4: return bonePlace(t.table.pot);
            default: return -1;
        }
    }

    public int pot(int i) {
        return seat(i) ? t.table.pot.get(i) % 100 : -1;
    }

    public int one(int p, int what) {
        if (!seat(p) || what < 0 || what > 3) {
            return -1;
        }
        return new int[][] {t.friends, t.spoons, t.need, t.eaten}[what][p];
    }

    private static <E> List<E> stirred(List<E> pot, int[] stir) {
        List<E> after = new ArrayList<>(pot);
        switch (stir[0]) {
            case 0 -> Collections.rotate(after, stir[1]);
            case 1 -> Collections.reverse(after);
            case 2 -> Collections.swap(after, stir[1], stir[2]);
            default -> after.add(0, after.remove(stir[1]));
        }
        return after;
    }

    public int stir(int r, int i) {
        if (!isStir(r) || !seat(i)) {
            return -1;
        }
        List<Integer> marks = new ArrayList<>();
        for (int j = 0; j < t.seats; j++) {
            marks.add(j);
        }
        return stirred(marks, t.stirs.get(r)).indexOf(i);
    }

    // ---- what is changed

    public int befriend(int p, int friend, boolean is) {
        if (!seat(p) || !seat(friend) || p == friend) {
            return -1;
        }
        int was = (t.friends[p] >> friend) & 1;
        t.friends[p] += ((is ? 1 : 0) - was) << friend;
        return was;
    }

    public int spoon(int p, int v) {
        if (!seat(p) || v < 1 || v > 9) {
            return -1;
        }
        int was = t.spoons[p];
        t.spoons[p] = v;
        return was;
    }

    public int crown(int p) {
        if (!seat(p)) {
            return -1;
        }
        int was = t.table.king;
        t.table.king = p;
        return was;
    }

    public int fill(int i, int v) {
        if (!seat(i) || v < 0 || v > 9) {
            return -1;
        }
        int was = t.table.pot.get(i);
        t.table.pot.set(i, was / 100 * 100 + v);
        return was % 100;
    }

    // ---- days

    /** By SEAT, what of a row of LAYERS that are stirred already each one gets. */
    private <E> List<E> served(int king, List<E> layers) {
        List<E> left = new ArrayList<>(layers);
        List<E> got = new ArrayList<>(Collections.nCopies(t.seats, (E) null));
        for (int i = 0; i < t.seats; i++) {
            int p = (king + i) % t.seats;
            boolean below = p == king || (t.friends[king] & (1 << p)) != 0;
            got.set(p, left.remove(below ? left.size() - 1 : 0));
        }
        return got;
    }

    /** What each gets, LAYERS with their marks; the table goes on. */
    private List<Integer> go(Table table, int r) {
        table.pot = stirred(table.pot, t.stirs.get(r));
        List<Integer> got = served(table.king, table.pot);
        table.king = bonePlace(got);
        return got;
    }

    private Table were(int k) {
        Table table = new Table(t.table);
        table.king = k;
        return table;
    }

    public int bowl(int k, int p, int r) {
        return seat(k) && seat(p) && isStir(r) ? go(were(k), r).get(p) % 100 : -1;
    }

    public int ladle(int k, int p, int r) {
        if (!seat(k) || !seat(p) || !isStir(r)) {
            return -1;
        }
        List<Integer> marks = new ArrayList<>();
        for (int j = 0; j < t.seats; j++) {
            marks.add(j);
        }
        return served(k, marks).get(p);
    }

    public int next(int k, int r) {
        return seat(k) && isStir(r) ? bonePlace(go(were(k), r)) : -1;
    }

    public int day(int r) {
        if (!isStir(r)) {
            return -1;
        }
        if (t.days == 999) {
            return -3;
        }
        List<Integer> got = go(t.table, r);
        for (int p = 0; p < t.seats; p++) {
            t.eaten[p] += got.get(p) % 100;
        }
        t.days++;
        return t.table.king;
    }

    public int hungry() {
        int bits = 0;
        for (int p = 0; p < t.seats; p++) {
            bits += t.eaten[p] < t.need[p] * t.days ? 1 << p : 0;
        }
        return bits;
    }

    // ---- luck, reigns

    static final class Rows {
        final Table table;
        BigInteger many;
        final List<Integer> first;

        Rows(Table table, BigInteger many, List<Integer> first) {
            this.table = table;
            this.many = many;
            this.first = first;
        }
    }

    private Map<String, Rows> begun() {
        Map<String, Rows> rows = new LinkedHashMap<>();
        rows.put(t.table.key(), new Rows(new Table(t.table), BigInteger.ONE, List.of()));
        return rows;
    }

    /** All tables a DAY later, in the order of the first rows that lead there. */
    private Map<String, Rows> later(Map<String, Rows> rows, boolean sameKing) {
        Map<String, Rows> after = new LinkedHashMap<>();
        for (Rows row : rows.values()) {
            for (int r = 0; r < t.stirs.size(); r++) {
                Table table = new Table(row.table);
                go(table, r);
                if (sameKing && table.king != t.table.king) {
                    continue;
                }
                Rows known = after.get(table.key());
                if (known != null) {
                    known.many = known.many.add(row.many);
                } else {
                    List<Integer> first = new ArrayList<>(row.first);
                    first.add(r);
                    after.put(table.key(), new Rows(table, row.many, first));
                }
            }
        }
        return after;
    }

    private static long part(BigInteger a, BigInteger b, int what) {
        BigInteger g = a.gcd(b);
        return (what == 0 ? a : b).divide(g).longValueExact();
    }

    private long luck(int p, int n, int what, boolean sameKing) {
        if (!seat(p) || n < 0 || n > 10 || what < 0 || what > 1) {
            return -1;
        }
        if (t.stirs.isEmpty()) {
            return -2;
        }
        Map<String, Rows> rows = begun();
        for (int i = 0; i < n; i++) {
            rows = later(rows, sameKing);
        }
        BigInteger sum = BigInteger.ZERO;
        for (Rows row : rows.values()) {
            sum = row.table.king == p ? sum.add(row.many) : sum;
        }
        return part(sum, BigInteger.valueOf(t.stirs.size()).pow(n), what);
    }

    public long chance(int p, int n, int what) {
        return luck(p, n, what, false);
    }

    public long lasts(int n, int what) {
        return luck(t.table.king, n, what, true);
    }

    private static int ofRow(List<Integer> row, int what) {
        if (what == 0) {
            return row == null ? -4 : row.size();
        }
        return row == null || what - 10 >= row.size() ? -4 : row.get(what - 10);
    }

    private static boolean badRow(int what, int most) {
        return what != 0 && (what < 10 || what >= 10 + most);
    }

    public int reign(int n, int what) {
        if (n < 1 || n > 10 || badRow(what, 10)) {
            return -1;
        }
        if (t.stirs.isEmpty()) {
            return -2;
        }
        List<Integer> best = List.of();
        Map<String, Rows> rows = begun();
        for (int i = 0; i < n; i++) {
            rows = later(rows, true);
            if (!rows.isEmpty()) {
                best = rows.values().iterator().next().first;
            }
        }
        return ofRow(best, what);
    }

    public int raise(int p, int what) {
        if (!seat(p) || badRow(what, 10)) {
            return -1;
        }
        if (t.stirs.isEmpty()) {
            return -2;
        }
        Map<String, Rows> rows = begun();
        for (int i = 0; i <= 10; i++) {
            for (Rows row : rows.values()) {
                if (row.table.king == p) {
                    return ofRow(row.first, what);
                }
            }
            rows = i < 10 ? later(rows, false) : rows;
        }
        return -4;
    }

    // ---- coups

    public int coup(int k, int r, int what) {
        if (!seat(k) || !isStir(r) || what < 0 || what > 1) {
            return -1;
        }
        int all = 0;
        for (int p = 0; p < t.seats; p++) {
            all += t.spoons[p];
        }
        for (int c = 0; c < t.seats; c++) {
            for (int bits = 0; bits < 1 << t.seats; bits++) {
                if (c != k && isCoup(k, r, c, bits, all)) {
                    return what == 0 ? c : bits;
                }
            }
        }
        return -4;
    }

    private boolean isCoup(int k, int r, int c, int bits, int all) {
        int theirs = 0;
        for (int p = 0; p < t.seats; p++) {
            if ((bits & (1 << p)) != 0) {
                theirs += t.spoons[p];
            }
        }
        if ((bits & (1 << c)) == 0 || 2 * theirs <= all) {
            return false;
        }
        for (int p = 0; p < t.seats; p++) {
            if ((bits & (1 << p)) != 0 && bowl(c, p, r) <= bowl(k, p, r)) {
                return false;
            }
        }
        return true;
    }

    public int firm(int r) {
        if (!isStir(r)) {
            return -1;
        }
        int bits = 0;
        for (int k = 0; k < t.seats; k++) {
            bits += coup(k, r, 0) == -4 ? 1 << k : 0;
        }
        return bits;
    }

    // ---- seen

    public int see(int p) {
        if (!seat(p)) {
            return -1;
        }
        if (t.seen.size() == 6) {
            return -3;
        }
        t.seen.add(p);
        return t.seen.size();
    }

    public int forget(int n) {
        if (n < 0 || n > t.seen.size()) {
            return -1;
        }
        int were = t.seen.size();
        t.seen = new ArrayList<>(t.seen.subList(0, n));
        return were;
    }

    private void collect(Table table, List<Integer> row, List<List<Integer>> all) {
        if (row.size() == t.seen.size()) {
            all.add(new ArrayList<>(row));
            return;
        }
        for (int r = 0; r < t.stirs.size(); r++) {
            Table after = new Table(table);
            go(after, r);
            if (after.king == t.seen.get(row.size())) {
                row.add(r);
                collect(after, row, all);
                row.remove(row.size() - 1);
            }
        }
    }

    private List<List<Integer>> allHistories() {
        List<List<Integer>> all = new ArrayList<>();
        collect(t.table, new ArrayList<>(), all);
        return all;
    }

    public int histories(int what) {
        if (badRow(what, 6)) {
            return -1;
        }
        List<List<Integer>> all = allHistories();
        if (what == 0) {
            return all.size();
        }
        return ofRow(all.isEmpty() ? null : all.get(0), what);
    }

    public int could(int i) {
        if (i < 0 || i >= t.seen.size()) {
            return -1;
        }
        int bits = 0;
        for (List<Integer> row : allHistories()) {
            bits |= 1 << row.get(i);
        }
        return bits;
    }

    // ---- luck of one, fair stirs

    public long blind(int m, int n, int what) {
        if (n < 1 || n > 12 || m < 0 || m > n || what < 0 || what > 1) {
            return -1;
        }
        BigInteger sum = BigInteger.ZERO;
        for (int j = m; j <= n; j++) {
            BigInteger ways = BigInteger.valueOf(t.seats - 1).pow(n - j);
            for (int i = 0; i < j; i++) {
                ways = ways.multiply(BigInteger.valueOf(n - i));
            }
            for (int i = 1; i <= j; i++) {
                ways = ways.divide(BigInteger.valueOf(i));
            }
            sum = sum.add(ways);
        }
        return part(sum, BigInteger.valueOf(t.seats).pow(n), what);
    }

    public int fair(int n, int what) {
        if (n < 1 || n > 4 || badRow(what, 4)) {
            return -1;
        }
        if (t.stirs.isEmpty()) {
            return -2;
        }
        int rows = (int) Math.round(Math.pow(t.stirs.size(), n));
        int best = Integer.MAX_VALUE;
        List<Integer> first = null;
        for (int code = 0; code < rows; code++) {
            List<Integer> row = new ArrayList<>();
            for (int i = 0, rest = code; i < n; i++, rest /= t.stirs.size()) {
                row.add(0, rest % t.stirs.size());
            }
            int spread = spread(row);
            if (spread < best) {
                best = spread;
                first = row;
            }
        }
        return what == 0 ? best : ofRow(first, what);
    }

    private int spread(List<Integer> row) {
        List<Integer> sums = new ArrayList<>(Collections.nCopies(t.seats, 0));
        Table table = new Table(t.table);
        for (int r : row) {
            List<Integer> got = go(table, r);
            for (int p = 0; p < t.seats; p++) {
                sums.set(p, sums.get(p) + got.get(p) % 100);
            }
        }
        return Collections.max(sums) - Collections.min(sums);
    }

    // ---- images, sheets

    public int keep(int k) {
        if (k < 0 || k > 1) {
            return -1;
        }
        int was = images[k] == null ? 0 : 1;
        images[k] = t.copy();
        return was;
    }

    public int back(int k) {
        if (k < 0 || k > 1) {
            return -1;
        }
        if (images[k] == null) {
            return -2;
        }
        t = images[k].copy();
        return t.table.king;
    }

    public int sheet(int k, int lane, int n) {
        if (k < 0 || k > 3 || lane < 0 || lane > 2 || n > 40) {
            return -1;
        }
        if (n < 0) {
            return -14;
        }
        sheets[k] = lane == 0 ? new byte[n] : lane == 1 ? new short[n] : new int[n];
        return 1;
    }

    /** Here the machine itself finds the FAULTS. */
    public int lay(int k, int i, int v) {
        if (k < 0 || k > 3) {
            return -1;
        }
        try {
            if (sheets[k] instanceof byte[] row) {
                row[i] = (byte) v;
            } else if (sheets[k] instanceof short[] row) {
                row[i] = (short) v;
            } else {
                ((int[]) sheets[k])[i] = v;
            }
            return 1;
        } catch (NullPointerException e) {
            return -11;
        } catch (ArrayIndexOutOfBoundsException e) {
            return -12;
        }
    }

    public int read(int k, int lane, int f, int n) {
        if (k < 0 || k > 3 || lane < 0 || lane > 2 || n < 0 || n > 20) {
            return -1;
        }
        Told before = t.copy();
        int went = 0;
        int tear = 0;
        try {
            for (; went < n; went++) {
                int i = f + went;
                int r = lane == 0 ? ((byte[]) sheets[k])[i] : lane == 1 ? ((short[]) sheets[k])[i] : ((int[]) sheets[k])[i];
                if (day(r) < 0) {
                    t = before;
                    return -20 - went;
                }
            }
        } catch (NullPointerException e) {
            tear = 1;
        } catch (ArrayIndexOutOfBoundsException e) {
            tear = 2;
        } catch (ClassCastException e) {
            tear = 3;
        }
        latestTear = tear;
        return went;
    }

    public int torn() {
        return latestTear;
    }

    public int count(int what) {
        switch (what) {
            case 0: return t.seen.size();
            case 1: return (images[0] == null ? 0 : 1) + (images[1] == null ? 0 : 1);
            case 2: return tape.length();
            case 3: return sheets[0] == null ? -4 : java.lang.reflect.Array.getLength(sheets[0]);
            case 4: return t.table.pot.stream().mapToInt(v -> v % 100).sum();
            default: return -1;
        }
    }
}
