import java.lang.reflect.InvocationTargetException;
import java.lang.reflect.Method;
import java.lang.reflect.Modifier;
import java.util.Arrays;
import java.util.Comparator;
import java.util.Random;

/** Long runs of calls, of seeds that stand here, answered by the program and by PlainDesk. */
public final class RandomRunsTest {
    private static final Check CHECK = new Check();
    private static final int RUNS = 400;
    private static final int CALLS = 512;

    /** Those that change the town come more often, so that the runs reach full towns. */
    private static final String[] OFTEN = {"addQuarter", "addPerson", "addOrder", "addOrder",
        "turnExempt", "turnOrder", "setShift", "givePass", "givePass", "takePass",
        "goOut", "goOut", "goOut", "pass", "pass", "bestLift"};

    private final Random random;
    private final Method[] methods;
    private final CurfewDesk desk = new CurfewDesk();
    private final PlainDesk plain = new PlainDesk();
    private final int percentWild;
    private final int longestPass;

    private RandomRunsTest(long seed) {
        random = new Random(seed);
        // Those of the face alone, so that a private method more does not change the runs.
        methods = Arrays.stream(CurfewDesk.class.getDeclaredMethods())
                .filter(method -> Modifier.isPublic(method.getModifiers()))
                .sorted(Comparator.comparing(Method::getName))
                .toArray(Method[]::new);
        percentWild = seed % 3 == 0 ? 10 : 1;
        longestPass = seed % 2 == 0 ? 200 : 20;
    }

    public static void main(String[] args) throws IllegalAccessException {
        for (int seed = 0; seed < RUNS; seed++) {
            new RandomRunsTest(seed).run(seed);
        }
        CHECK.finish();
    }

    private void run(int seed) throws IllegalAccessException {
        for (int i = 0; i < CALLS; i++) {
            Method method = pick();
            int[] arguments = arguments(method);
            String due = dueAnswer(method.getName(), arguments);
            String answer = answer(method, arguments);
            if (!due.equals(answer)) {
                CHECK.fail("seed " + seed + ", call " + i + ": " + method.getName()
                        + Arrays.toString(arguments) + " due is " + due + ", answered " + answer);
                return;
            }
        }
    }

    private Method pick() {
        boolean often = random.nextInt(100) < 60;
        String wanted = OFTEN[random.nextInt(OFTEN.length)];
        while (true) {
            Method method = methods[random.nextInt(methods.length)];
            if (!often || method.getName().equals(wanted)) {
                return method;
            }
        }
    }

    private int[] arguments(Method method) {
        int[] arguments = new int[method.getParameterCount()];
        for (int i = 0; i < arguments.length; i++) {
            arguments[i] = random.nextInt(100) < percentWild ? wild() : tame(method.getName(), i);
        }
        return arguments;
    }

    private int wild() {
        int[] wild = {-1, -5, 0, 4, 5, 6, 8, 9, 10, 20, 100, 201,
            Integer.MIN_VALUE, Integer.MAX_VALUE};
        return wild[random.nextInt(wild.length)];
    }

    /** An argument that is allowed, if the town has what it numbers. */
    private int tame(String name, int place) {
        switch (name) {
            case "addPerson": return random.nextInt(8);
            case "addOrder": return place == 0 ? among("quarters")
                    : place == 3 ? random.nextInt(4) : random.nextInt(5);
            case "turnExempt":
            case "isExempt": return place == 0 ? among("orders") : random.nextInt(8);
            case "setShift": return random.nextInt(9) - 4;
            case "givePass": return place == 0 ? among("people")
                    : place == 1 ? random.nextInt(4) : 1 + random.nextInt(3);
            case "takePass":
            case "stampsOf": return place == 0 ? among("people") : random.nextInt(4);
            case "pass": return 1 + random.nextInt(longestPass);
            case "duskIn":
            case "dawnIn": return random.nextInt(100);
            case "stampsUsed": return random.nextInt(4);
            case "tradeOf":
            case "owes":
            case "timesFined": return among("people");
            case "goOut":
            case "ordersAgainst":
            case "mayGo":
            case "stampsMissing":
            case "halfHoursUntilFree":
                return place == 0 ? among("people") : among("quarters");
            default: return among("orders");
        }
    }

    /** One of the things that this call counts; the model is asked, as it has no limit of calls. */
    private int among(String things) {
        int count = (int) plain.call(things, new int[0]);
        return count == 0 ? 0 : random.nextInt(count);
    }

    private String dueAnswer(String name, int[] arguments) {
        try {
            return Long.toString(plain.call(name, arguments));
        } catch (IndexOutOfBoundsException | IllegalArgumentException | IllegalStateException e) {
            return e.getClass().getName();
        }
    }

    private String answer(Method method, int[] arguments) throws IllegalAccessException {
        Object[] boxed = Arrays.stream(arguments).boxed().toArray();
        Object answer;
        try {
            answer = method.invoke(desk, boxed);
        } catch (InvocationTargetException e) {
            return e.getCause().getClass().getName();
        }
        if (answer instanceof Boolean) {
            return (Boolean) answer ? "1" : "0";
        }
        if (answer instanceof Double) {
            return Long.toString(Double.doubleToLongBits((Double) answer));
        }
        return answer.toString();
    }
}
