import java.lang.reflect.InvocationTargetException;
import java.lang.reflect.Method;
import java.lang.reflect.Modifier;
import java.util.ArrayList;
import java.util.Arrays;
import java.util.Comparator;
import java.util.List;
import java.util.Random;

/**
 * Runs of 512 calls on one object, each answer against the Model's: texts typed and undone, terms changed, SEEN
 * and SHEETS filled, in one row, so that what a call keeps from an earlier one is found if it is stale.
 */
public final class LongRunsTest {
    private static final int CALLS = 512;
    /** The neighbours of the bytes that may stand in a text, and the first and the last byte. */
    private static final String WRONG = "" + (char) 0 + "-/89:<ABbeFfhiGgqsc`a" + (char) 255;
    private static final int[] EDGES = {
        Integer.MIN_VALUE, -2, -1, 2, 3, 4, 5, 7, 8, 9, 10, 12, 13, 16, 17, 60, 61, 99, 100, 255, 256, Integer.MAX_VALUE,
    };

    private final Random random;
    private final ApproverWins x = new ApproverWins();
    private final Model model = new Model();
    private final List<Method> calls;
    private final List<String> told = new ArrayList<>();
    private int asked = 0;
    private boolean isWrong = false;

    private LongRunsTest(int seed, List<Method> calls) {
        random = new Random(seed);
        this.calls = calls;
        told.add("seed " + seed);
    }

    private static List<Method> callsOfFace() {
        List<Method> calls = new ArrayList<>();
        for (Method method : ApproverWins.class.getDeclaredMethods()) {
            if (Modifier.isPublic(method.getModifiers())) {
                calls.add(method);
            }
        }
        // Reflection promises no order, and a run must be the same each time.
        calls.sort(Comparator.comparing(Method::getName));
        return calls;
    }

    private Method named(String name) {
        return calls.stream().filter(call -> call.getName().equals(name)).findFirst().orElseThrow();
    }

    private void ask(Method call, int... numbers) {
        if (isWrong || asked == CALLS) {
            return;
        }
        asked++;
        String shown = call.getName() + Arrays.toString(numbers);
        long want = model.answer(call.getName(), numbers);
        try {
            long got = ((Number) call.invoke(x, Arrays.stream(numbers).boxed().toArray())).longValue();
            told.add(shown + " = " + got);
            isWrong = got != want;
        } catch (InvocationTargetException | IllegalAccessException e) {
            told.add(shown + " threw " + e.getCause());
            isWrong = true;
        }
        if (isWrong) {
            told.add("due is " + want);
            System.out.println(told);
        }
    }

    private char oneOf(String signs) {
        return signs.charAt(random.nextInt(signs.length()));
    }

    private void typeFelons() {
        ask(named("wipe"), 0);
        int felons = random.nextInt(9);
        for (int f = 0; f < felons; f++) {
            String felon = "" + oneOf("fcrrd") + oneOf("0123456789") + oneOf("0123456789") + oneOf("gi") + oneOf(".01234567");
            for (char b : (f == 0 ? felon : ";" + felon).toCharArray()) {
                ask(named("type"), 0, b);
            }
        }
    }

    private void typeNames() {
        ask(named("wipe"), 1);
        int names = random.nextInt(14);
        for (int i = 0; i < names; i++) {
            ask(named("type"), 1, oneOf("abcdefgh"));
        }
    }

    /** Some last bytes become others, in the end ones that mostly can stand there. */
    private void retypeLast() {
        int text = random.nextInt(2);
        int bytes = 1 + random.nextInt(text == 0 ? 5 : 1);
        for (int i = 0; i < bytes; i++) {
            ask(named("undo"), text);
            ask(named("fault"), text);
        }
        ask(named("type"), text, random.nextBoolean() ? oneOf(WRONG) : random.nextInt(256));
        ask(named("fault"), text);
        ask(named("undo"), text);
        String last = "" + oneOf("0123456789") + oneOf("0123456789") + oneOf("gi") + oneOf(".01234567");
        String typed = text == 1 ? "" + oneOf("abcdefgh") : bytes == 5 ? oneOf("fcrd") + last : last.substring(4 - bytes);
        for (char b : typed.toCharArray()) {
            ask(named("type"), text, b);
        }
        ask(named("fault"), text);
    }

    private void setTerm() {
        int what = random.nextInt(3);
        // Mostly few WINS: with many of them he seldom LIVES, and all chances are 0.
        int v = random.nextInt(what != 1 ? 11 : random.nextInt(4) == 0 ? 10 : 4);
        ask(named("set"), what, v);
    }

    /** Mostly what comes out by the BRIBE as it is, so that some BRIBES and KINDS are left. */
    private void seeSomething() {
        if (random.nextInt(3) == 0) {
            ask(named("forget"));
        }
        int felon = random.nextInt(8);
        int fate = (int) model.answer("fate", felon);
        ask(named("seen"), felon, fate < 0 || random.nextInt(6) == 0 ? random.nextInt(5) : fate);
    }

    /** A SHEET of pairs that mostly may be SEEN, then read, or what comes of the NAMES written and fetched. */
    private void useSheet() {
        int s = random.nextInt(4);
        int form = random.nextInt(3);
        int size = random.nextInt(20);
        ask(named("sheet"), s, form, size);
        for (int i = 0; i < size && i < 6; i++) {
            ask(named("lay"), s, form, i, random.nextInt(8) == 0 ? random.nextInt() : random.nextInt(i % 2 == 0 ? 9 : 6));
        }
        ask(named(random.nextBoolean() ? "read" : "write"), s);
        ask(named("get"), s, form, random.nextInt(6));
        ask(named("copy"), s, random.nextInt(3), random.nextInt(4), random.nextInt(3), random.nextInt(9));
    }

    /** How many numbers, from 0 on, may stand at a place of a call, or a few more. */
    private static int rangeOf(String call, int place) {
        switch (call) {
            case "type": return place == 0 ? 2 : 256;
            case "felon": return place == 0 ? 8 : 5;
            case "name": return 13;
            case "set": return place == 0 ? 3 : 9;
            case "comes":
            case "behind":
            case "alive": return place == 0 ? 12 : 2;
            case "fate":
            case "order":
            case "chain":
            case "kinds": return 8;
            case "rule": return 17;
            case "seen": return place == 0 ? 8 : 5;
            case "gaols": return place == 0 ? 1 << 30 : place == 1 ? 100 : 2;
            case "sheet": return place == 0 ? 4 : place == 1 ? 3 : 30;
            case "count": return 9;
            case "lives":
            case "harm":
            case "best":
            case "wipe":
            case "undo":
            case "fault": return 2;
            default: return 4;
        }
    }

    private void askAnything() {
        Method call = calls.get(random.nextInt(calls.size()));
        int[] numbers = new int[call.getParameterCount()];
        for (int i = 0; i < numbers.length; i++) {
            boolean isEdge = random.nextInt(20) == 0;
            numbers[i] = isEdge ? EDGES[random.nextInt(EDGES.length)] : random.nextInt(rangeOf(call.getName(), i));
        }
        // These mostly leave a text with a FAULT, or SEEN what never comes out, and little to ask about.
        boolean isRare = List.of("type", "wipe", "undo", "seen", "read").contains(call.getName());
        if (!isRare || random.nextInt(20) == 0) {
            ask(call, numbers);
        }
    }

    private boolean isFaulty() {
        return model.answer("count", 0) == 0 || model.answer("count", 1) == 0;
    }

    private boolean run() {
        while (asked < CALLS && !isWrong) {
            if (isFaulty() && random.nextInt(10) == 0) {
                typeFelons();
                typeNames();
            }
            switch (random.nextInt(60)) {
                case 0: typeNames(); break;
                case 1: retypeLast(); break;
                case 2:
                case 3:
                case 4: setTerm(); break;
                case 5:
                case 6:
                case 7: seeSomething(); break;
                case 8: useSheet(); break;
                default: askAnything();
            }
        }
        return !isWrong;
    }

    public static void main(String[] args) {
        List<Method> calls = callsOfFace();
        int wrong = 0;
        for (int seed = 0; seed < 250; seed++) {
            wrong += new LongRunsTest(seed, calls).run() ? 0 : 1;
        }
        System.out.println(wrong == 0 ? "long runs answer as the plain model does" : wrong + " runs differ");
        if (wrong != 0) {
            System.exit(1);
        }
    }
}
