import java.lang.reflect.InvocationTargetException;
import java.lang.reflect.Method;
import java.util.ArrayList;
import java.util.Arrays;
import java.util.Comparator;
import java.util.List;
import java.util.Map;
import java.util.Random;
import java.util.TreeMap;

/** Runs of many calls, made by a fixed seed, on the class and on the Model: each answer is the same. */
public final class ModelTest {
    private static final int RUNS = 4000;
    // With the digest behind each call, and the steps, an object sees fewer than the 512 calls that it is made for.
    private static final int CALLS = 210;

    private static final List<String> OFTEN = List.of("run", "run", "run", "over", "over", "out", "back", "back",
        "backRun", "backRun", "then", "then", "parts", "record", "replay", "endsIn", "cellIn", "outputWith");

    private final Random random;
    private final Lantern lantern = new Lantern();
    private final Model model = new Model();
    private final List<String> told = new ArrayList<>();
    private final Map<String, Integer> seen;
    private int size;

    private ModelTest(long seed, Map<String, Integer> seen) {
        this.random = new Random(seed);
        this.seen = seen;
    }

    public static void main(String[] args) throws Exception {
        Map<String, Integer> seen = new TreeMap<>();
        for (int run = 0; run < RUNS; run++) {
            if (!new ModelTest(run, seen).isSame()) {
                System.out.println("ModelTest: run " + run + " is not as due");
                System.exit(1);
            }
        }
        System.out.println("ModelTest: " + RUNS + " runs are as due; seen: " + seen);
        mustBeSeen(seen);
    }

    /** A run that stops for one reason only would prove little: each must come up often. */
    private static void mustBeSeen(Map<String, Integer> seen) {
        for (int reason = 1; reason <= 8; reason++) {
            mustBeSeen(seen, "reason " + reason);
        }
        for (int status = 0; status <= 6; status++) {
            mustBeSeen(seen, "status " + status);
        }
        mustBeSeen(seen, "past 200");
    }

    private static void mustBeSeen(Map<String, Integer> seen, String what) {
        if (seen.getOrDefault(what, 0) < 50) {
            System.out.println("ModelTest: " + what + " is seen too seldom");
            System.exit(1);
        }
    }

    private boolean isSame() throws Exception {
        List<Method> methods = new ArrayList<>(Arrays.asList(Model.class.getDeclaredMethods()));
        methods.removeIf(method -> !java.lang.reflect.Modifier.isPublic(method.getModifiers()));
        methods.sort(Comparator.comparing(Method::getName));
        for (int call = 0; call < CALLS; call++) {
            boolean isSame;
            if (call < 12 && random.nextInt(4) > 0) {
                isSame = addFragment();
            } else {
                String often = OFTEN.get(random.nextInt(OFTEN.size()));
                Method method = methods.get(random.nextInt(methods.size()));
                for (Method it : methods) {
                    method = it.getName().equals(often) && random.nextInt(3) > 0 ? it : method;
                }
                if (method.getName().equals("restart") && random.nextInt(3) > 0) {
                    continue;
                }
                isSame = isSameBy(method.getName(), method.getParameterTypes(), argumentsFor(method));
            }
            if (!isSame || !isSameBy("digest", new Class<?>[0], new Object[0])) {
                System.out.println("seed's calls: " + told);
                return false;
            }
        }
        return true;
    }

    private boolean isSameBy(String name, Class<?>[] types, Object[] arguments) throws Exception {
        Object want = answer(model, Model.class.getDeclaredMethod(name, types), arguments);
        Object got = answer(lantern, Lantern.class.getDeclaredMethod(name, types), arguments);
        told.add(name + Arrays.toString(arguments) + " = " + got);
        if (!want.equals(got)) {
            System.out.println(name + Arrays.toString(arguments) + ": " + got + " answered, due is " + want);
            return false;
        }
        if (name.equals("digest")) {
            count("reason " + model.told(8));
            count("status " + model.told(1));
            count(model.told(7) == 200 ? "past 200" : "past less");
        }
        return true;
    }

    private void count(String what) {
        seen.merge(what, 1, Integer::sum);
    }

    private static Object answer(Object of, Method method, Object[] arguments) throws Exception {
        try {
            return method.invoke(of, arguments);
        } catch (InvocationTargetException thrown) {
            return thrown.getCause().getClass().getName();
        }
    }

    private Object[] argumentsFor(Method method) {
        int[] numbers = numbersFor(method.getName());
        Object[] arguments = new Object[method.getParameterCount()];
        for (int i = 0; i < arguments.length; i++) {
            boolean isWhether = method.getParameterTypes()[i] == boolean.class;
            arguments[i] = isWhether ? (Object) (random.nextInt(4) > 0) : (Object) strange(numbers[i]);
        }
        return arguments;
    }

    /** Now and then another number than would do. */
    private int strange(int n) {
        int[] others = {-1, 200, 201, 500, 501, 12, 80, 81, 99, 100, Integer.MIN_VALUE, Integer.MAX_VALUE};
        return random.nextInt(40) == 0 ? others[random.nextInt(others.length)] : n;
    }

    private int upTo(int most) {
        return random.nextInt(most + 1);
    }

    private int cell() {
        return random.nextInt(3) > 0 ? upTo(3) : upTo(12);
    }

    private int small() {
        return random.nextInt(12) - 3;
    }

    private int most() {
        return random.nextInt(3) > 0 ? 1 + upTo(30) : 1 + upTo(500);
    }

    private int numberFor(int code) {
        if (code == 12 || code == 13) {
            return cell();
        }
        return code >= 16 && code <= 18 ? upTo(size + 1) : small();
    }

    private int[] numbersFor(String name) {
        int code = upTo(22);
        switch (name) {
            case "step": return new int[] {code, numberFor(code)};
            case "rewrite": return new int[] {upTo(size), code, numberFor(code)};
            case "give": return new int[] {small()};
            case "point": return new int[] {upTo(size + 1), random.nextInt(2) * upTo(4)};
            case "condition": return new int[] {upTo(6), upTo(4), cell(), small()};
            case "turn": return new int[] {upTo(6), 0, random.nextInt(2) * upTo(5)};
            case "watch": return new int[] {cell(), upTo(2), small()};
            case "run": case "over": case "out": case "endsIn": return new int[] {most()};
            case "back": return new int[] {random.nextInt(3) > 0 ? 1 + upTo(12) : 1 + upTo(200)};
            case "told": return new int[] {upTo(10)};
            case "ofStep": return new int[] {upTo(size), upTo(3)};
            case "ofPoint": return new int[] {upTo(6), upTo(4)};
            case "then": return new int[] {random.nextInt(2) > 0 ? upTo(8) : upTo(200), upTo(16)};
            case "cellIn": return new int[] {cell(), most()};
            case "outputWith": return new int[] {upTo(4), small()};
            case "record": case "replay": case "parts": return new int[] {random.nextInt(4)};
            default: return new int[] {upTo(12), upTo(12), upTo(12), upTo(12)};
        }
    }

    private boolean addFragment() throws Exception {
        for (int[] step : fragment(cell() % 12, size + upTo(6) - 3)) {
            int n = step[0] >= 16 && step[0] <= 18 ? Math.max(step[1], 0) : step[1];
            if (!isSameBy("step", new Class<?>[] {int.class, int.class}, new Object[] {step[0], n})) {
                return false;
            }
            size = Math.min(size + 1, 80);
        }
        return true;
    }

    private int[][] fragment(int cell, int to) {
        switch (upTo(13)) {
            case 0: return new int[][] {{0, small()}, {13, cell}};
            case 1: return new int[][] {{12, cell}, {0, small()}, {5 + upTo(5), 0}, {13, cell}};
            case 2: return new int[][] {{20, 0}, {13, cell}};
            case 3: return new int[][] {{12, cell}, {21, 0}};
            case 4: return new int[][] {{12, cell}, {17, to}};
            case 5: return new int[][] {{16, random.nextInt(3) > 0 ? 0 : to}};
            case 6: return new int[][] {{18, to}};
            case 7: return new int[][] {{19, 0}};
            case 8: return new int[][] {{0, small()}, {0, cell}, {15, 0}};
            case 9: return new int[][] {{0, cell}, {14, 0}, {1, 0}};
            case 10: return new int[][] {{12, cell}, {0, 1}, {5, 0}, {13, cell}, {16, Math.max(size - upTo(3), 0)}};
            case 11: return new int[][] {{18, size + 2}, {16, 0}, {12, cell}, {0, 1}, {5, 0}, {13, cell}, {19, 0}};
            case 12: return new int[][] {{0, small()}, {0, small()}, {2 + upTo(9), 0}};
            default: return new int[][] {{upTo(11), small()}};
        }
    }
}
