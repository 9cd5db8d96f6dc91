import java.lang.reflect.InvocationTargetException;
import java.lang.reflect.Method;
import java.util.Arrays;
import java.util.Comparator;
import java.util.HashMap;
import java.util.Map;
import java.util.Random;
import java.util.TreeMap;

/** Runs of 512 calls on one object, all calls mixed, wrong numbers among them, each against the model. */
public final class RunTest {
    private static final Check CHECK = new Check("RunTest");
    private static final int RUNS = 600;
    private static final int CALLS = 512;
    private static final int[] STRANGE = {Integer.MIN_VALUE, -65536, -6, -2, 256, 65537, 1 << 30, Integer.MAX_VALUE};
    /** For each call least and most of each number; calls without numbers are not told. */
    private static final Map<String, int[]> TOLD = told();
    /** How often each answer below 0 came, by call: a run that never meets one tests nothing of it. */
    private static final Map<String, Integer> MET = new TreeMap<>();

    private final Random random;
    private final EitherPocket pocket = new EitherPocket();
    private final Model model = new Model();
    private final int run;
    private int calls = 0;

    private RunTest(int run) {
        this.run = run;
        random = new Random(512L * run + 8);
    }

    public static void main(String[] args) throws ReflectiveOperationException {
        Method[] methods = EitherPocket.class.getDeclaredMethods();
        methods = Arrays.stream(methods).filter(m -> java.lang.reflect.Modifier.isPublic(m.getModifiers()))
            .sorted(Comparator.comparing(Method::getName)).toArray(Method[]::new);
        CHECK.due("calls of the face", methods.length, 31);
        for (int run = 0; run < RUNS; run++) {
            RunTest test = new RunTest(run);
            while (test.calls < CALLS) {
                test.oneStep(methods);
            }
        }
        metAll();
        CHECK.end();
    }

    private static Map<String, int[]> told() {
        Map<String, int[]> told = new HashMap<>();
        told.put("write", new int[] {32, 126});
        for (String sided : "box quarters reach buy worth over mean times likeliest".split(" ")) {
            told.put(sided, new int[] {0, 1});
        }
        told.put("putOver", new int[] {0, 1, 1, 10});
        told.put("hand", new int[] {0, 3, 0, 4});
        told.put("left", new int[] {0, 1, 0, 10});
        told.put("soon", new int[] {0, 1, 0, 21});
        told.put("level", new int[] {0, 20});
        told.put("begin", new int[] {0, 20, 0, 21, 0, 1});
        told.put("seen", new int[] {0, 10, 0, 10});
        told.put("asLikely", new int[] {0, 3, 0, 1});
        told.put("evenings", new int[] {1, 9999});
        told.put("better", new int[] {0, 3, 0, 4, 0, 3, 0, 4});
        told.put("coat", new int[] {0, 9999, 1, 60, 0, 1});
        told.put("count", new int[] {0, 8});
        return told;
    }

    private void oneStep(Method[] methods) throws ReflectiveOperationException {
        // Every tenth run writes much and never wipes, so that THE TEXT becomes full.
        boolean wordy = run % 10 == 0;
        Method method = wordy && random.nextInt(5) == 0 ? EitherPocket.class.getMethod("write", int.class)
            : methods[random.nextInt(methods.length)];
        switch (method.getName()) {
            case "write": writeItem(method); break;
            case "wipe":
                if (!wordy && random.nextInt(3) == 0) {
                    call(method);
                }
                break;
            case "seen": see(method); break;
            case "forget": case "lay": case "back":
                // These empty what others fill: rarer, so that it can become full.
                if (random.nextInt(3) == 0) {
                    call(method);
                }
                break;
            default: call(method, numbers(TOLD.getOrDefault(method.getName(), new int[0]))); break;
        }
    }

    private int[] numbers(int[] told) {
        int[] numbers = new int[told.length / 2];
        int wrong = random.nextInt(10) == 0 ? random.nextInt(Math.max(numbers.length, 1)) : -1;
        for (int i = 0; i < numbers.length; i++) {
            numbers[i] = i == wrong ? wrongNumber(told[2 * i], told[2 * i + 1])
                : told[2 * i] + random.nextInt(told[2 * i + 1] - told[2 * i] + 1);
        }
        return numbers;
    }

    private int wrongNumber(int least, int most) {
        switch (random.nextInt(3)) {
            case 0: return least - 1;
            case 1: return most + 1;
            default: return STRANGE[random.nextInt(STRANGE.length)];
        }
    }

    private void writeItem(Method write) throws ReflectiveOperationException {
        String item = item();
        for (int i = 0; i < item.length(); i++) {
            call(write, item.charAt(i));
        }
        if (random.nextInt(6) == 0) {
            call(write, random.nextBoolean() ? wrongNumber(32, 126) : 32 + random.nextInt(95));
        }
    }

    private String item() {
        switch (random.nextInt(14)) {
            case 0: case 1: case 2: case 3: return "b" + random.nextInt(11) + "," + random.nextInt(11) + ";";
            case 4: case 5: case 6: case 7: return "h" + random.nextInt(4) + "," + random.nextInt(5) + ";";
            case 8: case 9: return "l" + random.nextInt(2) + ";";
            case 10: case 11: return "e" + (1 + random.nextInt(9)) + ";";
            case 12: return "h0" + random.nextInt(5) + "," + random.nextInt(6) + ";";
            default: return "b" + random.nextInt(12) + ",0" + random.nextInt(11) + ";";
        }
    }

    /** Mostly what can be one evening behind the one seen last. */
    private void see(Method seen) throws ReflectiveOperationException {
        int[] from = model.seen.isEmpty() ? model.now : model.seen.get(model.seen.size() - 1);
        int fromLeft = random.nextInt(model.evening + 1);
        int l = from[0] - fromLeft;
        int r = from[1] - (model.evening - fromLeft);
        if (random.nextInt(5) > 0 && l >= 0 && r >= 0) {
            call(seen, l, r);
        } else {
            call(seen, numbers(TOLD.get("seen")));
        }
    }

    private void call(Method method, int... numbers) throws ReflectiveOperationException {
        if (calls == CALLS) {
            return;
        }
        calls++;
        Object[] args = Arrays.stream(numbers).boxed().toArray();
        Method due = Model.class.getDeclaredMethod(method.getName(), method.getParameterTypes());
        int want = (int) due.invoke(model, args);
        int got = answer(method, args);
        CHECK.due("run " + run + ", call " + calls + ": " + method.getName() + Arrays.toString(args), got, want);
        if (want < 0) {
            MET.merge(method.getName() + want, 1, Integer::sum);
        }
    }

    private int answer(Method method, Object[] args) throws ReflectiveOperationException {
        try {
            return (int) method.invoke(pocket, args);
        } catch (InvocationTargetException e) {
            throw new IllegalStateException(method.getName() + Arrays.toString(args) + " threw", e.getCause());
        }
    }

    /** Each answer below 0 that the document names for a call must have come in the runs. */
    private static void metAll() {
        String named = "write-1 write-3 fault-4 lay-2 box-1 quarters-1 reach-1 reach-5 putOver-1 putOver-2 putOver-3 "
            + "buy-1 hand-1 undo-2 left-1 mean-1 soon-1 times-1 likeliest-1 level-1 worth-1 worth-3 begin-1 over-1 "
            + "seen-1 seen-3 asLikely-1 asLikely-4 evenings-1 better-1 coat-1 keep-3 back-2 count-1";
        for (String one : named.split(" ")) {
            CHECK.due("runs that met " + one, MET.containsKey(one) ? 1 : 0, 1);
        }
        CHECK.due("answers below 0 met, and no others", MET.size(), named.split(" ").length);
    }
}
