import java.lang.reflect.Method;
import java.lang.reflect.Modifier;
import java.nio.file.Files;
import java.nio.file.Path;
import java.util.regex.Matcher;
import java.util.regex.Pattern;

/** README.md holds: its text is taken, its calls answer what it says, and it names every call. */
public final class ReadmeTest {
    private static final Pattern CALL = Pattern.compile("(?m)^x\\.(\\w+)\\(([-\\d, ]*)\\); +// (-?\\d+):");
    private static final Due due = new Due();

    public static void main(String[] args) throws Exception {
        String readme = Files.readString(Path.of("README.md"));
        Matcher text = Pattern.compile("text = \"([^\"]*)\"").matcher(readme);
        Matcher lines = Pattern.compile("how many lines it read \\((\\d+)\\)").matcher(readme);
        due.isTrue("the text is found", text.find() && lines.find());
        LadleKings x = new LadleKings();
        due.is("lines", Due.tell(x, text.group(1)), Long.parseLong(lines.group(1)));
        int calls = 0;
        for (Matcher call = CALL.matcher(readme); call.find(); calls++) {
            due.is(call.group(), answer(x, call.group(1), call.group(2)), Long.parseLong(call.group(3)));
        }
        due.isTrue("calls are found: " + calls, calls >= 15);
        namesEveryCall(readme);
        due.finish();
    }

    /** All that is called here takes ints. */
    private static long answer(LadleKings x, String name, String list) throws Exception {
        String[] numbers = list.isEmpty() ? new String[0] : list.split(", ");
        Class<?>[] types = new Class<?>[numbers.length];
        Object[] arguments = new Object[numbers.length];
        for (int i = 0; i < numbers.length; i++) {
            types[i] = int.class;
            arguments[i] = Integer.valueOf(numbers[i]);
        }
        return ((Number) LadleKings.class.getMethod(name, types).invoke(x, arguments)).longValue();
    }

    private static void namesEveryCall(String readme) {
        for (Method m : LadleKings.class.getDeclaredMethods()) {
            if (Modifier.isPublic(m.getModifiers())) {
                due.isTrue("README.md names " + m.getName(), readme.contains("`" + m.getName() + "`"));
            }
        }
    }
}
