import java.io.IOException;
import java.lang.reflect.Field;
import java.lang.reflect.Method;
import java.lang.reflect.Modifier;
import java.nio.file.Files;
import java.nio.file.Path;
import java.util.Arrays;
import java.util.List;
import java.util.Set;
import java.util.TreeSet;
import java.util.regex.Matcher;
import java.util.regex.Pattern;

/** The face, and those rules of LANGUAGE.md that can be read off the text and the class. */
public final class LanguageTest {
    private static final Check check = new Check("LanguageTest");
    private static final String FACE = "person(int) people(int,int,int) mend(int,int,int) of(int,int) feed(int) law() "
        + "loud(int) day(int,int,int) stung(int,int,int,int) reach() soon(int) passOn(int,int,int) orders(int,int) "
        + "stand(int,int,int) lastWord(int,int,int) crier(int,int) keepNear(int) heard(int,int,int) "
        + "drawn(int,int,int) say(int,int) go(int,int) pad(int) led(int) image() back() undo() redo() body(int) "
        + "act(int,int,int) trace(int) keep(int,int) row(int,int,int) put(int,int,long) element(int,int) "
        + "shift(int,int,int,int,int) taken(int,int) count(int)";
    private static final String HEAD = "( {4}| {8})(?!for |if |while |switch )\\S.*\\) \\{";
    private static final List<Class<?>> FIELD_TYPES = Arrays.asList(int.class, long.class, boolean.class, int[].class,
        long[].class, long[][].class);

    public static void main(String[] args) throws IOException {
        String source = Files.readString(Path.of(System.getProperty("bees.source", "src/main/java/BeesSting.java")));
        face();
        classes();
        text(bare(source));
        check.end();
    }

    private static void face() {
        Set<String> due = new TreeSet<>(Arrays.asList(FACE.split(" ")));
        Set<String> names = new TreeSet<>();
        for (String call : due) {
            names.add(call.substring(0, call.indexOf('(')));
        }
        Set<String> found = new TreeSet<>();
        for (Method m : BeesSting.class.getDeclaredMethods()) {
            StringBuilder given = new StringBuilder();
            for (Class<?> type : m.getParameterTypes()) {
                given.append(given.length() == 0 ? "" : ",").append(type.getName());
            }
            if (Modifier.isPublic(m.getModifiers())) {
                found.add(m.getName() + "(" + given + ")");
                check.holds("answer of " + m, m.getReturnType() == (m.getName().equals("element") ? long.class : int.class));
            } else {
                check.holds("private: " + m, Modifier.isPrivate(m.getModifiers()));
                check.holds("a name of its own: " + m, !names.contains(m.getName()));
            }
        }
        check.holds("the face, but is " + found, found.equals(due));
        check.holds("final", Modifier.isFinal(BeesSting.class.getModifiers()));
        Set<String> open = new TreeSet<>();
        for (Field f : BeesSting.class.getDeclaredFields()) {
            if (!Modifier.isPrivate(f.getModifiers())) {
                open.add(f.getName());
            }
        }
        check.holds("constants, but are " + open, open.equals(new TreeSet<>(Arrays.asList("BAD", "NOT", "FULL", "STATE", "VOID"))));
        check.due("BAD", BeesSting.BAD, -1);
        check.due("NOT", BeesSting.NOT, -2);
        check.due("FULL", BeesSting.FULL, -3);
        check.due("STATE", BeesSting.STATE, -5);
        check.due("VOID", BeesSting.VOID, -2000000000);
    }

    private static void classes() {
        Class<?>[] inside = BeesSting.class.getDeclaredClasses();
        check.holds("some twelve classes", inside.length + 1 <= 12);
        fields(BeesSting.class);
        for (Class<?> one : inside) {
            check.holds("static: " + one, Modifier.isStatic(one.getModifiers()));
            check.holds("not open: " + one, !Modifier.isPublic(one.getModifiers()) && !Modifier.isProtected(one.getModifiers()));
            fields(one);
            for (Method m : one.getDeclaredMethods()) {
                check.holds("seven parameters: " + m, m.getParameterCount() <= 7);
                check.holds("a name of its own: " + m, !FACE.contains(" " + m.getName() + "("));
            }
        }
    }

    private static void fields(Class<?> one) {
        int own = 0;
        for (Field f : one.getDeclaredFields()) {
            Class<?> type = f.getType();
            while (type.isArray() && !FIELD_TYPES.contains(type)) {
                type = type.getComponentType();
            }
            check.holds("type of " + f, FIELD_TYPES.contains(type) || type.getName().startsWith("BeesSting$"));
            if (Modifier.isStatic(f.getModifiers())) {
                check.holds("final: " + f, Modifier.isFinal(f.getModifiers()));
            } else {
                own++;
            }
        }
        check.holds("some twenty fields: " + one, own <= 20);
    }

    /** The text without comments, and every text and sign in it empty. */
    private static String bare(String source) {
        return source.replaceAll("(?s)/\\*.*?\\*/", "").replaceAll("//[^\n]*", "").replaceAll("'(\\\\.|[^'])'", "0");
    }

    private static void text(String bare) {
        for (String word : new String[] {"throw", "throws", "try", "catch", "synchronized", "assert", "Object", "String",
            "equals", "hashCode", "toString", "package", "extends", "implements", "float", "double", "instanceof",
            "var", "yield", "record", "volatile", "transient", "native"}) {
            check.holds("without " + word, !Pattern.compile("\\b" + word + "\\b").matcher(bare).find());
        }
        for (String sign : new String[] {"->", "::", "@", "\"", "'"}) {
            check.holds("without " + sign, !bare.contains(sign));
        }
        Matcher imports = Pattern.compile("import ([^;]*);").matcher(bare);
        while (imports.find()) {
            check.holds("import " + imports.group(1), imports.group(1).equals("java.util.Arrays"));
        }
        Matcher library = Pattern.compile("\\b(Arrays|System|Math|Integer|Long)\\.(\\w+)").matcher(bare);
        Set<String> allowed = new TreeSet<>(Arrays.asList("Arrays.fill", "System.arraycopy", "Math.min", "Math.max",
            "Integer.bitCount", "Long.MIN_VALUE"));
        while (library.find()) {
            check.holds("library: " + library.group(), allowed.contains(library.group()));
        }
        methodLengths(bare.split("\n"));
        check.holds("objects are made by constructors and field initialisers alone", madeAlone(bare));
    }

    private static void methodLengths(String[] lines) {
        int from = -1;
        for (int i = 0; i < lines.length; i++) {
            String line = lines[i];
            if (line.matches(HEAD)) {
                from = i;
            }
            if (from >= 0 && line.matches("( {4}| {8})\\}")) {
                check.holds("some sixty lines: " + lines[from].trim(), i - from <= 60);
                from = -1;
            }
        }
    }

    /** Every new stands in a field's initialiser, or in a constructor (a head without an answer's type). */
    private static boolean madeAlone(String bare) {
        boolean inConstructor = false;
        boolean alone = true;
        for (String line : bare.split("\n")) {
            if (line.matches(HEAD)) {
                inConstructor = line.matches("\\s*(public )?[A-Z]\\w*\\(.*");
            }
            boolean isField = line.matches("( {4}| {8})(private |static |final )*\\S+ \\w+ = new .*;");
            if (line.matches(".*\\bnew\\b.*") && !isField && !inConstructor) {
                System.out.println("LanguageTest: " + line.trim());
                alone = false;
            }
        }
        return alone;
    }
}
