import java.util.Random;

/** Random calls on sheets against plain Java arrays: what Java itself would throw is the finding. */
public final class SheetsTest {
    private static final int BAD = -2;
    private static final int[] EDGES = {-1, 0, 1, 2, 3, 59, 60, 61, Integer.MIN_VALUE, Integer.MAX_VALUE};
    private static int wrong = 0;

    private final Random random;
    private final int seed;
    private final ApproverWins x = new ApproverWins();
    private final Object[] rows = new Object[4];
    private int latest = 0;

    private SheetsTest(int seed) {
        this.seed = seed;
        random = new Random(seed);
    }

    private void due(String call, long got, long want) {
        if (got != want) {
            wrong++;
            System.out.println("seed " + seed + ": " + call + " answered " + got + ", due is " + want);
        }
    }

    private int found(int number) {
        latest = number;
        return -10 - number;
    }

    private static boolean isSheet(int s) {
        return 0 <= s && s <= 3;
    }

    private static boolean isForm(int form) {
        return 0 <= form && form <= 2;
    }

    private int sheet(int s, int form, int n) {
        if (!isSheet(s) || !isForm(form) || n > 60) {
            return BAD;
        }
        try {
            rows[s] = form == 0 ? new byte[n] : form == 1 ? new short[n] : new int[n];
            return n;
        } catch (NegativeArraySizeException e) {
            return found(5);
        }
    }

    private int lose(int s) {
        if (!isSheet(s)) {
            return BAD;
        }
        if (rows[s] == null) {
            return found(1);
        }
        int had = java.lang.reflect.Array.getLength(rows[s]);
        rows[s] = null;
        return had;
    }

    private int layOrGet(int s, int form, int i, int v, boolean isLay) {
        if (!isSheet(s) || !isForm(form)) {
            return BAD;
        }
        if (rows[s] == null) {
            return found(1);
        }
        try {
            if (form == 0) {
                byte[] row = (byte[]) rows[s];
                return isLay ? ((row[i] = (byte) v) == 0 ? 1 : 1) : row[i];
            }
            if (form == 1) {
                short[] row = (short[]) rows[s];
                return isLay ? ((row[i] = (short) v) == 0 ? 1 : 1) : row[i];
            }
            int[] row = (int[]) rows[s];
            return isLay ? ((row[i] = v) == 0 ? 1 : 1) : row[i];
        } catch (ClassCastException e) {
            return found(3);
        } catch (ArrayIndexOutOfBoundsException e) {
            return found(2);
        }
    }

    private int get(int s, int form, int i) {
        int before = latest;
        latest = 0;
        int got = layOrGet(s, form, i, 0, false);
        boolean isRefused = latest != 0 || !isSheet(s) || !isForm(form);
        latest = latest == 0 ? before : latest;
        return isRefused ? Integer.MIN_VALUE : got;
    }

    private int copy(int s, int i, int t, int j, int n) {
        if (!isSheet(s) || !isSheet(t)) {
            return BAD;
        }
        try {
            System.arraycopy(rows[s], i, rows[t], j, n);
            return 1;
        } catch (NullPointerException e) {
            return found(1);
        } catch (ArrayStoreException e) {
            return found(4);
        } catch (ArrayIndexOutOfBoundsException e) {
            return found(2);
        }
    }

    private int write(int s) {
        if (!isSheet(s)) {
            return BAD;
        }
        if (rows[s] == null) {
            return found(1);
        }
        int written = Math.min(x.count(1), java.lang.reflect.Array.getLength(rows[s]));
        for (int i = 0; i < written; i++) {
            int form = rows[s] instanceof byte[] ? 0 : rows[s] instanceof short[] ? 1 : 2;
            layOrGet(s, form, i, x.comes(i, 0), true);
        }
        return written;
    }

    private int number() {
        return random.nextInt(8) == 0 ? EDGES[random.nextInt(EDGES.length)] : random.nextInt(6);
    }

    private int which() {
        return random.nextInt(20) == 0 ? EDGES[random.nextInt(EDGES.length)] : random.nextInt(4);
    }

    private int form() {
        return random.nextInt(20) == 0 ? EDGES[random.nextInt(EDGES.length)] : random.nextInt(3);
    }

    private void oneCall() {
        int s = which();
        int t = which();
        int f = form();
        int i = number();
        int j = number();
        int n = number();
        int v = random.nextInt() >> random.nextInt(32);
        switch (random.nextInt(8)) {
            case 0 -> due("sheet(" + s + ", " + f + ", " + n + ")", x.sheet(s, f, n), sheet(s, f, n));
            case 1 -> {
                if (random.nextInt(4) == 0) {
                    due("lose(" + s + ")", x.lose(s), lose(s));
                }
            }
            case 2, 3 -> due("lay(" + s + ", " + f + ", " + i + ", " + v + ")", x.lay(s, f, i, v), layOrGet(s, f, i, v, true));
            case 4 -> due("get(" + s + ", " + f + ", " + i + ")", x.get(s, f, i), get(s, f, i));
            case 5, 6 -> due("copy(" + s + ", " + i + ", " + t + ", " + j + ", " + n + ")", x.copy(s, i, t, j, n), copy(s, i, t, j, n));
            default -> due("write(" + s + ")", x.write(s), write(s));
        }
        due("count(8)", x.count(8), latest);
    }

    private void compareAll() {
        for (int s = 0; s < 4; s++) {
            for (int form = 0; form < 3; form++) {
                for (int i = 0; i < 60; i += 1 + i / 8) {
                    due("get(" + s + ", " + form + ", " + i + ")", x.get(s, form, i), get(s, form, i));
                }
            }
        }
    }

    private void run() {
        for (char b : "f50g.;c50g.;r09i.;d00i.".toCharArray()) {
            x.type(0, b);
        }
        for (int i = random.nextInt(7); i > 0; i--) {
            x.type(1, 'a' + random.nextInt(5));
        }
        for (int call = 0; call < 110; call++) {
            oneCall();
        }
        compareAll();
    }

    public static void main(String[] args) {
        for (int seed = 0; seed < 3000; seed++) {
            new SheetsTest(seed).run();
        }
        System.out.println(wrong == 0 ? "sheets are as Java's own arrays" : wrong + " answers differ");
        if (wrong != 0) {
            System.exit(1);
        }
    }
}
