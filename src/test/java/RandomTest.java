import java.lang.reflect.InvocationTargetException;
import java.lang.reflect.Method;
import java.util.ArrayList;
import java.util.Arrays;
import java.util.Comparator;
import java.util.List;
import java.util.Random;

/** Runs of calls, by luck but the same each time, whose answers must be those of the Model. */
public final class RandomTest {
    private static final int RUNS = 400;
    private static final int CALLS = 300;
    private static final String[] NAMES = {"seats", "pot", "bone", "king", "friend", "spoons", "need", "turn", "flip",
        "swap", "lift"};

    private final Random luck;
    private final LadleKings x = new LadleKings();
    private final Model model = new Model();
    private final List<String> calls = new ArrayList<>();

    private RandomTest(long seed) {
        luck = new Random(seed);
    }

    public static void main(String[] args) throws Exception {
        Method[] face = LadleKings.class.getDeclaredMethods();
        List<Method> methods = new ArrayList<>();
        for (Method m : face) {
            if (java.lang.reflect.Modifier.isPublic(m.getModifiers())) {
                methods.add(m);
            }
        }
        methods.sort(Comparator.comparing(Method::getName));
        int runs = args.length > 0 ? Integer.parseInt(args[0]) : RUNS;
        int wrong = 0;
        for (int seed = 0; seed < runs && wrong < 5; seed++) {
            wrong += new RandomTest(seed).run(methods) ? 0 : 1;
        }
        System.out.println(runs + " runs, " + wrong + " wrong");
        if (wrong > 0) {
            System.exit(1);
        }
    }

    private boolean run(List<Method> methods) throws Exception {
        boolean same = tell(validText());
        for (int i = 0; i < CALLS && same; i++) {
            int dice = luck.nextInt(100);
            if (dice < 2) {
                same = tell(validText());
            } else if (dice < 5) {
                same = tell(spoilt(validText()));
            } else {
                Method m = methods.get(luck.nextInt(methods.size()));
                boolean rare = m.getName().equals("text") || m.getName().equals("feed");
                same = rare && luck.nextInt(4) != 0 || both(m, argumentsOf(m));
            }
        }
        if (!same) {
            System.out.println("run: " + calls);
        }
        return same;
    }

    private boolean both(Method m, Object[] arguments) throws Exception {
        calls.add(m.getName() + Arrays.toString(arguments));
        Method due = Model.class.getDeclaredMethod(m.getName(), m.getParameterTypes());
        Object want = due.invoke(model, arguments);
        Object got;
        try {
            got = m.invoke(x, arguments);
        } catch (InvocationTargetException e) {
            got = e.getCause();
        }
        if (!want.equals(got)) {
            System.out.println(m.getName() + Arrays.toString(arguments) + " answered " + got + ", due is " + want);
            return false;
        }
        return true;
    }

    private boolean both(String name, Object... arguments) throws Exception {
        Class<?>[] types = new Class<?>[arguments.length];
        for (int i = 0; i < arguments.length; i++) {
            types[i] = arguments[i] instanceof Long ? long.class : int.class;
        }
        return both(LadleKings.class.getDeclaredMethod(name, types), arguments);
    }

    private boolean tell(String text) throws Exception {
        calls.add("'" + text + "'");
        boolean same = both("end", 0);
        for (int i = 0; i < text.length() && same; i += 8) {
            long v = 0;
            for (int j = i; j < i + 8; j++) {
                v = (v << 8) | (j < text.length() ? text.charAt(j) & 255 : ' ');
            }
            same = both("feed", v);
        }
        return same && both("end", text.length()) && both("text") && both("fault");
    }

    private String blanks() {
        return luck.nextInt(6) == 0 ? "  ".substring(luck.nextInt(2)) : "";
    }

    private String validText() {
        int seats = 2 + luck.nextInt(6);
        List<String> lines = new ArrayList<>();
        lines.add("seats " + seats);
        StringBuilder pot = new StringBuilder("pot");
        for (int i = 0, n = luck.nextInt(4) == 0 ? 1 + luck.nextInt(seats) : seats; i < n; i++) {
            pot.append(' ').append(blanks()).append(luck.nextInt(10));
        }
        lines.add(pot.toString());
        lines.add("bone " + luck.nextInt(seats));
        if (luck.nextBoolean()) {
            lines.add("king" + blanks() + luck.nextInt(seats));
        }
        for (int p = 0; p < seats; p++) {
            for (int q = 0; q < seats; q++) {
                if (p != q && luck.nextInt(6) == 0 && lines.size() < 13) {
                    lines.add("friend " + p + " " + q);
                }
            }
            if (luck.nextInt(3) == 0) {
                lines.add("spoons " + p + " " + (1 + luck.nextInt(9)));
            }
            if (luck.nextInt(3) == 0) {
                lines.add("need " + p + " 0" + luck.nextInt(10));
            }
        }
        for (int i = 0, n = luck.nextInt(10) == 0 ? 0 : 1 + luck.nextInt(5); i < n; i++) {
            lines.add(validStir(seats));
        }
        StringBuilder text = new StringBuilder(blanks());
        while (!lines.isEmpty()) {
            text.append(lines.remove(luck.nextInt(5) == 0 ? luck.nextInt(lines.size()) : 0));
            text.append(blanks()).append(';').append(blanks());
        }
        return text.length() > 320 ? "flip;" : text.toString();
    }

    private String validStir(int seats) {
        int a = luck.nextInt(seats);
        switch (luck.nextInt(4)) {
            case 0: return "turn" + (1 + luck.nextInt(6));
            case 1: return "flip";
            case 2: return "swap " + a + " " + (a + 1 + luck.nextInt(seats - 1)) % seats;
            default: return "lift " + (1 + luck.nextInt(seats - 1));
        }
    }

    private String spoilt(String text) {
        StringBuilder b = new StringBuilder(text);
        for (int i = 0, n = 1 + luck.nextInt(2); i < n && b.length() > 0; i++) {
            int at = luck.nextInt(b.length());
            switch (luck.nextInt(6)) {
                case 0 -> b.deleteCharAt(at);
                case 1 -> b.insert(at, (char) ('0' + luck.nextInt(10)));
                case 2 -> b.insert(at, ";., A\u00ff\u0000".charAt(luck.nextInt(7)));
                case 3 -> b.setCharAt(at, (char) ('0' + luck.nextInt(10)));
                case 4 -> b.insert(b.indexOf(";", at) < 0 ? b.length() : b.indexOf(";", at) + 1, anyLine());
                default -> b.setLength(at);
            }
        }
        b.setLength(Math.min(b.length(), 320));
        return b.toString();
    }

    private String anyLine() {
        StringBuilder line = new StringBuilder(NAMES[luck.nextInt(NAMES.length)]);
        for (int i = 0, n = luck.nextInt(luck.nextInt(5) == 0 ? 10 : 3); i < n; i++) {
            line.append(' ').append(luck.nextInt(11));
        }
        return line.append(luck.nextInt(10) == 0 ? "" : ";").toString();
    }

    private Object[] argumentsOf(Method m) {
        Class<?>[] types = m.getParameterTypes();
        Object[] arguments = new Object[types.length];
        for (int i = 0; i < types.length; i++) {
            if (types[i] == long.class) {
                arguments[i] = luck.nextLong();
            } else if (types[i] == boolean.class) {
                arguments[i] = luck.nextBoolean();
            } else {
                arguments[i] = luck.nextInt(12) == 0 ? oddNumber() : fitting(m.getName(), i);
            }
        }
        return arguments;
    }

    private int oddNumber() {
        int[] odd = {-1, -2, 2, 4, 5, 6, 7, 8, 9, 10, 11, 12, 13, 14, 16, 20, 21, 40, 41, 319, 320, 321,
            Integer.MIN_VALUE, Integer.MAX_VALUE, Integer.MAX_VALUE - 3};
        return odd[luck.nextInt(odd.length)];
    }

    /** Deep looks are dear for the Model where there are many tables. */
    private int days() {
        return luck.nextInt(model.t.seats > 5 && model.t.stirs.size() > 2 ? 7 : 11);
    }

    private int question(int most) {
        return luck.nextBoolean() ? 0 : 10 + luck.nextInt(most);
    }

    private int fitting(String name, int i) {
        int seat = luck.nextInt(model.t.seats);
        int stir = luck.nextInt(Math.max(1, model.t.stirs.size()));
        switch (name + i) {
            case "end0": return luck.nextInt(model.tape.length() + 1);
            case "rule0": case "count0": return luck.nextInt(5);
            case "one1": return luck.nextInt(4);
            case "stir0": case "bowl2": case "ladle2": case "next1": case "day0": case "coup1": case "firm0": return stir;
            case "spoon1": return 1 + luck.nextInt(9);
            case "fill1": return luck.nextInt(10);
            case "chance1": case "lasts0": return days();
            case "chance2": case "lasts1": case "coup2": case "blind2": case "keep0": case "back0": return luck.nextInt(2);
            case "reign0": return Math.max(1, days());
            case "reign1": case "raise1": return question(10);
            case "forget0": case "could0": return luck.nextInt(model.t.seen.size() + 1);
            case "histories0": return question(6);
            case "blind0": case "blind1": return luck.nextInt(13);
            case "fair0": return 1 + luck.nextInt(4);
            case "fair1": return question(4);
            case "sheet0": case "lay0": case "read0": return luck.nextInt(luck.nextBoolean() ? 2 : 4);
            case "sheet1": case "read1": return luck.nextInt(luck.nextBoolean() ? 1 : 3);
            case "sheet2": return luck.nextInt(41);
            case "lay1": return luck.nextInt(20);
            case "lay2": return luck.nextInt(4) == 0 ? luck.nextInt() : stir + (luck.nextInt(3) << 8);
            case "read2": return luck.nextInt(30);
            case "read3": return luck.nextInt(luck.nextBoolean() ? 4 : 21);
            default: return seat;
        }
    }
}
