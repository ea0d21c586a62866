import java.lang.reflect.InvocationTargetException;
import java.lang.reflect.Method;
import java.util.Arrays;
import java.util.Random;

/** All promises: long runs of calls, drawn from fixed seeds, answer as the Model does. */
public final class RandomRunsTest {
    private static final int RUNS = 3000;
    private static final int CALLS = 512;
    private static final long ARGUMENT = Long.MIN_VALUE;
    private static final long STATE = Long.MIN_VALUE + 1;
    private static final long OTHER = Long.MIN_VALUE + 2;

    private static final String[] NAMES = {"file", "change", "get", "disk", "end", "save", "restore", "apply",
            "remove", "number", "last", "boundary", "entry", "drop", "cut", "start", "link", "ack", "takeOver",
            "remote"};
    private static final int[] ARGUMENTS = {1, 4, 2, 2, 2, 2, 1, 2, 2, 1, 0, 2, 2, 0, 1, 0, 2, 0, 0, 2};
    /** How often each method is drawn; what pump and takeOver draw comes on top. */
    private static final int[] WEIGHTS = {1, 50, 10, 8, 40, 10, 8, 20, 10, 4, 2, 8, 8, 8, 1, 8, 10, 8, 0, 10};
    private static final int[] EDGES = {Integer.MIN_VALUE, -2, -1, 3, 4, 8, 9, 16, 24, 25, 121, Integer.MAX_VALUE};

    private static final int PUMPING = 60;
    private static final int FIRST_FILES = 2;

    private static final int FILE = 0;
    private static final int CHANGE = 1;
    private static final int END = 4;
    private static final int APPLY = 7;
    private static final int DROP = 13;
    private static final int LINK = 16;
    private static final int ACK = 17;
    private static final int TAKE_OVER = 18;

    private static final Method[] HOUSE = methodsOf(JournalHouse.class);
    private static final Method[] MODEL = methodsOf(Model.class);

    private final Checks checks = new Checks();
    private final int[][] outcomes = new int[NAMES.length][3];
    private int mostDropped;
    private int mostEntries;

    public static void main(String[] args) {
        RandomRunsTest test = new RandomRunsTest();
        for (int seed = 0; seed < RUNS && test.checks.isClean(); seed++) {
            test.run(seed);
        }
        if (test.checks.isClean()) {
            test.sawEnough();
        }
        test.checks.finish();
    }

    private void run(int seed) {
        Random random = new Random(seed);
        JournalHouse house = new JournalHouse();
        Model model = new Model();
        StringBuilder told = new StringBuilder();
        // In some runs the link works well, so that receivers are dropped; in others it hardly works.
        int pumping = random.nextInt(5) == 0 ? PUMPING - 5 : random.nextInt(PUMPING);
        int takeOverFrom = random.nextInt(6 * CALLS);
        for (int i = 0; i < CALLS; i++) {
            int[] call = i < FIRST_FILES
                    ? new int[] {FILE, 1 + random.nextInt(8)}
                    : draw(random, model, pumping, i >= takeOverFrom);
            long due = answer(model, MODEL, call);
            long got = answer(house, HOUSE, call);
            outcomes[call[0]][due == ARGUMENT ? 1 : due == STATE ? 2 : 0]++;
            told.append(textOf(call)).append(" -> ").append(due).append('\n');
            if (got != due) {
                checks.complain("run " + seed + ":\n" + told + "answered " + got);
                return;
            }
            if (call[0] == DROP && due > mostDropped) {
                mostDropped = (int) due;
            }
        }
        mostEntries = Math.max(mostEntries, model.last());
    }

    private int[] draw(Random random, Model model, int pumping, boolean mayTakeOver) {
        if (random.nextInt(PUMPING) < pumping) {
            return pump(random, model);
        }
        if (mayTakeOver && random.nextInt(40) == 0) {
            return new int[] {TAKE_OVER};
        }
        int[] call = new int[5];
        call[0] = drawMethod(random);
        for (int i = 1; i <= ARGUMENTS[call[0]]; i++) {
            call[i] = drawArgument(random, model, call[0], i);
        }
        if (call[0] == APPLY && random.nextInt(4) > 0) {
            call[2] = model.number(call[1]) + 1 + random.nextInt(1 + random.nextInt(12));
        }
        return call;
    }

    /** What brings the remote house, and then the dropping of receivers, forward. */
    private static int[] pump(Random random, Model model) {
        int letters = model.letters();
        if (letters > 12 || letters > 0 && random.nextInt(3) > 0) {
            return new int[] {LINK, random.nextInt(4) == 0 ? random.nextInt(letters) : letters - 1, 0};
        }
        if (model.applied() == model.last() || random.nextInt(12) == 0) {
            int[] methods = {ACK, DROP, END, END, CHANGE, CHANGE, CHANGE};
            int method = methods[random.nextInt(methods.length)];
            return new int[] {method, random.nextInt(3), random.nextInt(2), 0, random.nextInt(9)};
        }
        return new int[] {LINK, model.applied() + 1 + random.nextInt(4) / 3, 3};
    }

    private static int drawMethod(Random random) {
        int left = random.nextInt(Arrays.stream(WEIGHTS).sum());
        for (int method = 0; method < WEIGHTS.length; method++) {
            left -= WEIGHTS[method];
            if (left < 0) {
                return method;
            }
        }
        throw new AssertionError();
    }

    private static int drawArgument(Random random, Model model, int method, int at) {
        if (random.nextInt(60) == 0) {
            return EDGES[random.nextInt(EDGES.length)];
        }
        String name = NAMES[method];
        switch (name) {
            case "file":
                return 1 + random.nextInt(8);
            case "change":
                return at == 4 ? random.nextInt(6) - 2 : random.nextInt(at == 3 ? 1 + random.nextInt(4) : 3);
            case "end":
                return at == 1 ? random.nextInt(3) : random.nextInt(3) / 2 == 0 ? 1 : 0;
            case "save":
            case "restore":
                return random.nextInt(at == 1 && name.equals("save") ? 3 : 4);
            case "apply":
            case "remove":
            case "boundary":
            case "number":
                return at == 1 ? random.nextInt(3) : drawNumber(random, model);
            case "entry":
                return at == 1 ? drawNumber(random, model) : random.nextInt(6);
            case "cut":
                return random.nextInt(model.waits() + 1);
            case "link":
                return at == 2 ? random.nextInt(4) : random.nextInt(2 + random.nextInt(20));
            default:
                return random.nextInt(at == 1 ? 3 : 4);
        }
    }

    private static int drawNumber(Random random, Model model) {
        int number = random.nextInt(model.last() + 2);
        return random.nextBoolean() ? number : Math.max(number, model.last() - random.nextInt(12));
    }

    private static Method[] methodsOf(Class<?> type) {
        Method[] methods = new Method[NAMES.length];
        for (Method method : type.getDeclaredMethods()) {
            int at = Arrays.asList(NAMES).indexOf(method.getName());
            if (at >= 0) {
                methods[at] = method;
            }
        }
        return methods;
    }

    private static long answer(Object house, Method[] methods, int[] call) {
        Object[] arguments = new Object[ARGUMENTS[call[0]]];
        for (int i = 0; i < arguments.length; i++) {
            arguments[i] = call[i + 1];
        }
        if (call[0] == END) {
            arguments[1] = call[2] == 1;
        }
        try {
            Object answer = methods[call[0]].invoke(house, arguments);
            return answer instanceof Boolean yes ? (yes ? 1 : 0) : ((Number) answer).longValue();
        } catch (InvocationTargetException e) {
            Class<?> thrown = e.getCause().getClass();
            return thrown == IllegalArgumentException.class ? ARGUMENT
                    : thrown == IllegalStateException.class ? STATE : OTHER;
        } catch (IllegalAccessException e) {
            throw new AssertionError(e);
        }
    }

    private static String textOf(int[] call) {
        StringBuilder text = new StringBuilder(NAMES[call[0]]).append('(');
        for (int i = 1; i <= ARGUMENTS[call[0]]; i++) {
            text.append(i == 1 ? "" : ", ").append(call[i]);
        }
        return text.append(')').toString();
    }

    /** Runs that never come to a promise would not test it. */
    private void sawEnough() {
        for (int method = 0; method < NAMES.length; method++) {
            if (outcomes[method][0] < 500) {
                checks.complain(NAMES[method] + " answered only " + outcomes[method][0] + " times");
            }
        }
        checks.yes("receivers were dropped up to 9 and more: " + mostDropped, mostDropped >= 9);
        checks.yes("the journal was filled: " + mostEntries, mostEntries >= 110);
    }
}
