import java.io.IOException;
import java.lang.reflect.Executable;
import java.lang.reflect.Field;
import java.lang.reflect.InvocationTargetException;
import java.lang.reflect.Method;
import java.lang.reflect.Modifier;
import java.nio.file.Files;
import java.nio.file.Path;
import java.util.ArrayList;
import java.util.Arrays;
import java.util.Comparator;
import java.util.List;
import java.util.Random;
import java.util.Set;
import java.util.regex.Matcher;
import java.util.regex.Pattern;

/** Some rules of ../shared/LANGUAGE.md, seen in the class and its text, and rule 7: no call throws by itself. */
public final class LanguageTest {
    private static final Path SOURCE = Path.of("src/main/java/JournalHouse.java");
    private static final Set<String> LIBRARY = Set.of("System.arraycopy", "Math.min", "Math.max");
    private static final Set<String> THROWN = Set.of("IllegalArgumentException", "IllegalStateException");
    private static final List<String> RULED_OUT = List.of("package", "import", "protected", "finally", "try",
            "synchronized", "assert", "\\w+Exact", "->", "::", "double", "float", "hashCode", "equals", "toString");
    private static final int MOST_CLASSES = 12;
    private static final int MOST_FIELDS = 20;
    private static final int MOST_PARAMETERS = 7;
    private static final int MOST_LINES = 60;

    private final Checks checks = new Checks();
    private final List<Class<?>> classes = new ArrayList<>();
    private final String source;

    private LanguageTest(String source) {
        this.source = source;
        classes.add(JournalHouse.class);
        classes.addAll(Arrays.asList(JournalHouse.class.getDeclaredClasses()));
    }

    public static void main(String[] args) throws IOException {
        LanguageTest test = new LanguageTest(Files.readString(SOURCE));
        test.classesInside();
        test.fields();
        test.parameters();
        test.text();
        test.thrown();
        test.methodsAreShort();
        for (int seed = 0; seed < 300; seed++) {
            test.nothingElseIsThrown(seed);
        }
        test.checks.finish();
    }

    private void classesInside() {
        checks.yes("classes: " + classes.size(), classes.size() <= MOST_CLASSES);
        for (Class<?> inside : JournalHouse.class.getDeclaredClasses()) {
            int seen = inside.getModifiers();
            checks.yes(inside + " is static", Modifier.isStatic(seen));
            checks.no(inside + " is public or protected", Modifier.isPublic(seen) || Modifier.isProtected(seen));
            checks.same(inside + " has classes inside", inside.getDeclaredClasses().length, 0);
        }
    }

    private void fields() {
        for (Class<?> type : classes) {
            int own = 0;
            for (Field field : type.getDeclaredFields()) {
                boolean isStatic = Modifier.isStatic(field.getModifiers());
                own += isStatic ? 0 : 1;
                checks.yes(field + " is a constant, if static",
                        !isStatic || Modifier.isFinal(field.getModifiers()) && field.getType().isPrimitive());
                checks.yes(field + " is of a type that may be used", isOfPlainType(field.getType()));
            }
            checks.yes(type + " has " + own + " fields", own <= MOST_FIELDS);
        }
    }

    private boolean isOfPlainType(Class<?> type) {
        Class<?> single = type.isArray() ? type.getComponentType() : type;
        return single.isPrimitive() || classes.contains(single);
    }

    private void parameters() {
        for (Class<?> type : classes) {
            List<Executable> all = new ArrayList<>(Arrays.asList(type.getDeclaredMethods()));
            all.addAll(Arrays.asList(type.getDeclaredConstructors()));
            for (Executable one : all) {
                checks.yes(one + " takes few parameters", one.getParameterCount() <= MOST_PARAMETERS);
            }
        }
    }

    private void text() {
        String bare = source.replaceAll("(?s)/\\*.*?\\*/", "").replaceAll("//.*", "");
        for (String word : RULED_OUT) {
            boolean isSign = word.equals("->") || word.equals("::");
            Pattern pattern = Pattern.compile(isSign ? word : "\\b" + word + "\\b");
            checks.no(word + " is used", pattern.matcher(bare).find());
        }
        Matcher used = Pattern.compile("\\b[A-Z]\\w*[a-z]\\w*\\.\\w+").matcher(bare);
        while (used.find()) {
            checks.yes(used.group() + " may be used", LIBRARY.contains(used.group()));
        }
    }

    private void thrown() {
        Matcher thrown = Pattern.compile("\\bthrow\\b(?: new (\\w+)\\(\\);)?").matcher(source);
        while (thrown.find()) {
            checks.yes(thrown.group() + " may be thrown", thrown.group(1) != null && THROWN.contains(thrown.group(1)));
        }
    }

    /** The text is indented evenly, so a method ends at the next brace as deep as its head. */
    private void methodsAreShort() {
        Matcher method = Pattern.compile("(?ms)^( {4}| {8})\\w[^;=]*?\\([^;]*?\\{\\n(.*?)^\\1\\}").matcher(source);
        int seen = 0;
        while (method.find()) {
            seen++;
            checks.yes("a method is short: " + method.group().lines().findFirst().get(),
                    method.group().lines().count() <= MOST_LINES);
        }
        checks.yes("methods were found: " + seen, seen >= 40);
    }

    /** Far behind the 512th call, too, where the answers are free. */
    private void nothingElseIsThrown(int seed) {
        Random random = new Random(seed);
        JournalHouse house = new JournalHouse();
        Method[] face = Arrays.stream(JournalHouse.class.getDeclaredMethods())
                .filter(method -> Modifier.isPublic(method.getModifiers()))
                .sorted(Comparator.comparing(Method::getName))
                .toArray(Method[]::new);
        for (int i = 0; i < 2000; i++) {
            Method method = face[random.nextInt(face.length)];
            // A house that is cut at every turn never has much that waits.
            if (method.getName().equals("cut") && random.nextInt(30) > 0) {
                continue;
            }
            Object[] arguments = Arrays.stream(method.getParameterTypes())
                    .map(type -> type == boolean.class ? (Object) random.nextBoolean() : (Object) drawn(random))
                    .toArray();
            try {
                method.invoke(house, arguments);
            } catch (InvocationTargetException e) {
                boolean isDeclared = Arrays.asList(method.getExceptionTypes()).contains(e.getCause().getClass());
                checks.yes(method.getName() + Arrays.toString(arguments) + " threw " + e.getCause(), isDeclared);
            } catch (IllegalAccessException e) {
                throw new AssertionError(e);
            }
        }
    }

    private static int drawn(Random random) {
        switch (random.nextInt(12)) {
            case 0:
                return random.nextInt();
            case 1:
                return random.nextBoolean() ? Integer.MIN_VALUE : Integer.MAX_VALUE;
            case 2:
            case 3:
                return random.nextInt(125) - 2;
            default:
                return random.nextInt(4);
        }
    }
}
