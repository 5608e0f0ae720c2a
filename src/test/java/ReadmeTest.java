import java.io.IOException;
import java.lang.reflect.Method;
import java.lang.reflect.Modifier;
import java.nio.file.Files;
import java.nio.file.Path;
import java.util.regex.Matcher;
import java.util.regex.Pattern;

/** README.md tells the truth: its examples answer as it says, and it names each call with all that it takes. */
public final class ReadmeTest {
    private static final Check check = new Check("ReadmeTest");
    private static final Pattern EXAMPLE = Pattern.compile("bees\\.(\\w+)\\((.*)\\); +// (-?\\d+)\\b.*");

    public static void main(String[] args) throws IOException, ReflectiveOperationException {
        String text = Files.readString(Path.of(System.getProperty("bees.readme", "README.md")));
        examples(text);
        names(text);
        check.end();
    }

    private static void examples(String text) throws ReflectiveOperationException {
        BeesSting bees = null;
        int told = 0;
        for (String line : text.split("\n")) {
            if (line.startsWith("BeesSting bees = new")) {
                bees = new BeesSting();
            } else if (line.startsWith("bees.")) {
                Matcher m = EXAMPLE.matcher(line);
                check.holds("an example tells its answer: " + line, m.matches());
                if (m.matches() && bees != null) {
                    check.due(line, answer(bees, m.group(1), m.group(2)), Long.parseLong(m.group(3)));
                    told++;
                }
            }
        }
        check.holds("examples", told > 0);
    }

    private static long answer(BeesSting bees, String name, String given) throws ReflectiveOperationException {
        String[] parts = given.isEmpty() ? new String[0] : given.split(", ");
        for (Method call : BeesSting.class.getDeclaredMethods()) {
            Class<?>[] types = call.getParameterTypes();
            if (Modifier.isPublic(call.getModifiers()) && call.getName().equals(name) && types.length == parts.length) {
                Object[] values = new Object[parts.length];
                for (int i = 0; i < parts.length; i++) {
                    int v = parts[i].startsWith("'") ? parts[i].charAt(1) : Integer.decode(parts[i]);
                    values[i] = types[i] == long.class ? (Object) (long) v : (Object) v;
                }
                return ((Number) call.invoke(bees, values)).longValue();
            }
        }
        check.holds("there is a call " + name + "(" + given + ")", false);
        return 0;
    }

    private static void names(String text) {
        for (Method call : BeesSting.class.getDeclaredMethods()) {
            if (Modifier.isPublic(call.getModifiers())) {
                int takes = call.getParameterCount();
                String some = takes == 0 ? "" : "\\w+(, \\w+){" + (takes - 1) + "}";
                check.holds("README.md names " + call.getName(),
                    Pattern.compile("`" + call.getName() + "\\(" + some + "\\)`").matcher(text).find());
            }
        }
    }
}
