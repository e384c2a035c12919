import java.lang.reflect.Constructor;
import java.lang.reflect.Field;
import java.lang.reflect.Method;
import java.lang.reflect.Modifier;
import java.util.Set;
import java.util.TreeSet;

/** The public face (LANGUAGE.md, rule 1) and a new object (promise 1). */
public final class FaceTest {
    private static final String[] FACE = {
        "int feed(long)", "int end(int)", "int text()", "int fault()", "int rule(int)", "int pot(int)",
        "int one(int,int)", "int stir(int,int)", "int befriend(int,int,boolean)", "int spoon(int,int)",
        "int crown(int)", "int fill(int,int)", "int bowl(int,int,int)", "int ladle(int,int,int)",
        "int next(int,int)", "int day(int)", "int hungry()", "long chance(int,int,int)", "long lasts(int,int)",
        "int reign(int,int)", "int raise(int,int)", "int coup(int,int,int)", "int firm(int)", "int see(int)",
        "int forget(int)", "int histories(int)", "int could(int)", "long blind(int,int,int)", "int fair(int,int)",
        "int keep(int)", "int back(int)", "int sheet(int,int,int)", "int lay(int,int,int)",
        "int read(int,int,int,int)", "int torn()", "int count(int)",
    };

    private static final Due due = new Due();

    public static void main(String[] args) {
        constants();
        methods();
        fields();
        newObject();
        due.finish();
    }

    private static void constants() {
        due.is("BAD", LadleKings.BAD, -1);
        due.is("STATE", LadleKings.STATE, -2);
        due.is("FULL", LadleKings.FULL, -3);
        due.is("NONE", LadleKings.NONE, -4);
    }

    private static void methods() {
        Set<String> want = new TreeSet<>(Set.of(FACE));
        Set<String> publicNames = new TreeSet<>();
        Set<String> got = new TreeSet<>();
        for (Method m : LadleKings.class.getDeclaredMethods()) {
            if (Modifier.isPublic(m.getModifiers())) {
                got.add(signature(m));
                publicNames.add(m.getName());
            }
        }
        due.isTrue("the public methods are " + want + ", not " + got, want.equals(got));
        for (Class<?> c : LadleKings.class.getDeclaredClasses()) {
            due.isTrue(c + " is static", Modifier.isStatic(c.getModifiers()));
            for (Method m : c.getDeclaredMethods()) {
                due.isTrue(m + " has a name of its own", !publicNames.contains(m.getName()));
            }
        }
        for (Method m : LadleKings.class.getDeclaredMethods()) {
            boolean isPublic = Modifier.isPublic(m.getModifiers());
            due.isTrue(m + " is public or private", isPublic || Modifier.isPrivate(m.getModifiers()));
            due.isTrue(m + " has a name of its own", isPublic || !publicNames.contains(m.getName()));
        }
        due.is("classes", LadleKings.class.getDeclaredClasses().length, 11);
    }

    private static String signature(Method m) {
        StringBuilder text = new StringBuilder(m.getReturnType() + " " + m.getName() + "(");
        for (Class<?> type : m.getParameterTypes()) {
            text.append(text.charAt(text.length() - 1) == '(' ? "" : ",").append(type);
        }
        return text.append(")").toString();
    }

    private static void fields() {
        due.isTrue("the class is public", Modifier.isPublic(LadleKings.class.getModifiers()));
        due.isTrue("the class is final", Modifier.isFinal(LadleKings.class.getModifiers()));
        Constructor<?>[] made = LadleKings.class.getDeclaredConstructors();
        due.is("constructors", made.length, 1);
        due.is("parameters", made[0].getParameterCount(), 0);
        Set<String> publics = new TreeSet<>();
        for (Field f : LadleKings.class.getDeclaredFields()) {
            if (!Modifier.isPrivate(f.getModifiers())) {
                publics.add(f.getName());
            }
            due.isTrue(f + ": a static field is final",
                !Modifier.isStatic(f.getModifiers()) || Modifier.isFinal(f.getModifiers()));
        }
        due.isTrue("public fields: " + publics, publics.equals(Set.of("BAD", "STATE", "FULL", "NONE")));
    }

    private static void newObject() {
        LadleKings x = new LadleKings();
        due.is("rule(0)", x.rule(0), 4);
        for (int what = 1; what <= 4; what++) {
            due.is("rule(" + what + ")", x.rule(what), 0);
        }
        for (int i = 0; i < 4; i++) {
            due.is("pot", x.pot(i), 0);
            due.is("FRIENDS", x.one(i, 0), 0);
            due.is("SPOONS", x.one(i, 1), 1);
            due.is("NEED", x.one(i, 2), 0);
            due.is("EATEN", x.one(i, 3), 0);
        }
        due.is("no fifth SEAT", x.one(4, 0), -1);
        due.is("no STIR", x.stir(0, 0), -1);
        for (int k = 0; k < 4; k++) {
            due.is("SHEET " + k + " is nothing", x.lay(k, 0, 0), -11);
        }
        due.is("count(0)", x.count(0), 0);
        due.is("count(1)", x.count(1), 0);
        due.is("count(2)", x.count(2), 0);
        due.is("count(3)", x.count(3), -4);
        due.is("count(4)", x.count(4), 0);
        due.is("fault()", x.fault(), 0);
        due.is("torn()", x.torn(), 0);
        due.is("back(0)", x.back(0), -2);
        due.is("back(1)", x.back(1), -2);
    }
}
