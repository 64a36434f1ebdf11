import java.lang.reflect.InvocationTargetException;
import java.lang.reflect.Method;
import java.util.ArrayList;
import java.util.Arrays;
import java.util.Comparator;
import java.util.List;
import java.util.Random;

/** Any numbers in any state: no call throws, and what is refused or only asked changes nothing. */
public final class WildCallsTest {
    private static final int[] EDGES = {
        Integer.MIN_VALUE, Integer.MIN_VALUE + 1, -2, -1, 0, 1, 2, 3, 4, 5, 7, 8, 9, 10, 11, 12, 13, 16, 17,
        30, 47, 48, 59, 60, 61, 99, 100, 255, 256, 1 << 16, 1 << 30, Integer.MAX_VALUE - 1, Integer.MAX_VALUE,
    };
    private static final String BYTES = "fcrd0123456789gi.;abcdefgh";
    private static final List<String> CHANGING = List.of(
        "type", "wipe", "undo", "set", "seen", "forget", "read", "sheet", "lose", "lay", "copy", "write");
    private static int wrong = 0;

    private static void fail(String told) {
        wrong++;
        System.out.println(told);
    }

    private static List<Method> calls() {
        List<Method> calls = new ArrayList<>();
        for (Method method : ApproverWins.class.getDeclaredMethods()) {
            if (java.lang.reflect.Modifier.isPublic(method.getModifiers())) {
                calls.add(method);
            }
        }
        // Reflection promises no order, and a run must be the same each time.
        calls.sort(Comparator.comparing(Method::getName));
        return calls;
    }

    private static void startText(ApproverWins x, Random random) {
        StringBuilder felons = new StringBuilder();
        for (int i = random.nextInt(9); i > 0; i--) {
            felons.append(felons.length() == 0 ? "" : ";").append("fcrd".charAt(random.nextInt(4)));
            felons.append(random.nextInt(10)).append(random.nextInt(10)).append("gi".charAt(random.nextInt(2)));
            felons.append(".01234567".charAt(random.nextInt(9)));
        }
        for (int i = 0; i < felons.length(); i++) {
            x.type(0, felons.charAt(i));
        }
        for (int i = random.nextInt(13); i > 0; i--) {
            x.type(1, 'a' + random.nextInt(8));
        }
    }

    private static Object[] numbers(Method call, Random random) {
        Object[] numbers = new Object[call.getParameterCount()];
        for (int i = 0; i < numbers.length; i++) {
            numbers[i] = random.nextInt(3) == 0 ? EDGES[random.nextInt(EDGES.length)] : random.nextInt(5);
        }
        if (call.getName().equals("type") && random.nextInt(4) > 0) {
            numbers[1] = (int) BYTES.charAt(random.nextInt(BYTES.length()));
        }
        return numbers;
    }

    /** All that a caller can ask for, but count(8) and the sheets (SheetsTest has these). */
    private static String stateOf(ApproverWins x) {
        StringBuilder state = new StringBuilder().append(x.digest());
        for (int i = 0; i < 8; i++) {
            state.append(' ').append(x.order(i));
        }
        return state.toString();
    }

    private static void check(String told, String name, long answer, boolean isSame, int before, int behind) {
        boolean isChanging = CHANGING.contains(name);
        boolean isFinding = isChanging && answer <= -11 && answer >= -15;
        if (!isSame && !(isChanging && answer >= 0)) {
            fail(told + " answered " + answer + " and changed something");
        }
        if (isFinding && behind != -10 - answer) {
            fail(told + " answered " + answer + ", but count(8) is " + behind);
        }
        if (!isFinding && !name.equals("get") && behind != before) {
            fail(told + " answered " + answer + " and changed count(8)");
        }
    }

    private static void run(int seed, List<Method> calls) throws IllegalAccessException {
        Random random = new Random(seed);
        ApproverWins x = new ApproverWins();
        startText(x, random);
        for (int i = 0; i < 60; i++) {
            Method call = calls.get(random.nextInt(calls.size()));
            Object[] numbers = numbers(call, random);
            String told = "seed " + seed + ": " + call.getName() + Arrays.toString(numbers);
            String state = stateOf(x);
            int finding = x.count(8);
            try {
                long answer = ((Number) call.invoke(x, numbers)).longValue();
                check(told, call.getName(), answer, stateOf(x).equals(state), finding, x.count(8));
            } catch (InvocationTargetException e) {
                fail(told + " threw " + e.getCause());
                return;
            }
        }
    }

    public static void main(String[] args) throws IllegalAccessException {
        List<Method> calls = calls();
        for (int seed = 0; seed < 2500; seed++) {
            run(seed, calls);
        }
        System.out.println(wrong == 0 ? "no call throws, no refusal changes anything" : wrong + " faults");
        if (wrong != 0) {
            System.exit(1);
        }
    }
}
