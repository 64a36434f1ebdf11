/**
 * What is refused: each number of each act a little and far too small and too large, in objects that are
 * new, ordinary, full and with a FAULT; the order of the refusals; and that a refused call changes nothing.
 */
public final class RefusalsTest {
    private static final int NEW = 0, ORDINARY = 1, FILLED = 2, FAULTY = 3, STATES = 4;
    private static final int[] FELONS = {0, 4, 8, 0}, NAMES = {0, 6, 12, 0}, LATEST = {0, 5, 4, 2};
    private static final String[] TOLD = {"new", "ordinary", "full", "with a FAULT"};
    /** count(8) stays as it was. */
    private static final int NO_FINDING = 0;

    private static final Checks checks = new Checks();

    private interface Act {
        long answer(ApproverWins x, int v);
    }

    public static void main(String[] args) {
        for (int state = 0; state < STATES; state++) {
            texts(state);
            felonsAndNames(state);
            terms(state);
            fractions(state);
            plans(state);
            seen(state);
            gaols(state);
            sheets(state);
        }
        for (int state = ORDINARY; state < STATES; state++) {
            items(state);
            stretches(state);
        }
        orderOfTexts();
        orderOfSheets();
        orderOfCopies();
        nothingToUndo();
        noRoom();
        changesNothing();
        checks.end();
    }

    // ---- states

    private static ApproverWins make(int state) {
        ApproverWins x = new ApproverWins();
        if (state == NEW) {
            return x;
        }
        laySheets(x);
        if (state == ORDINARY) {
            Checks.put(x, 0, "r45i1;c00g2;f30g.;f11i0");
            Checks.put(x, 1, "dcbahd");
            x.set(0, 6);
            x.set(1, 3);
            x.set(2, 4);
            x.seen(0, 2);
            x.sheet(3, 0, -1);
        } else if (state == FILLED) {
            Checks.put(x, 0, "r45i1;c00g2;f30g.;f11i0;d00g0;f99i7;r09g3;f52i6");
            Checks.put(x, 1, "hgfedcbaaceg");
            x.set(1, 8);
            for (int i = 0; i < 8; i++) {
                x.seen(6, 2);
            }
            x.copy(0, 0, 1, 0, 0);
        } else {
            Checks.put(x, 0, "r45i1;c00g2;f30g.;f11i0;");
            Checks.put(x, 1, "dcbahdi");
            x.seen(0, 0);
            x.lay(2, 2, 3, 1);
        }
        return x;
    }

    /** 60 bytes, no shorts, 3 ints, and one that is LOST. */
    private static void laySheets(ApproverWins x) {
        x.sheet(0, 0, 60);
        x.sheet(1, 1, 0);
        x.sheet(2, 2, 3);
        for (int i = 0; i < 5; i++) {
            x.lay(0, 0, i * 14, i + 1);
        }
        x.lay(0, 0, 59, -1);
        x.lay(2, 2, 0, 7);
        x.lay(2, 2, 2, 1 << 30);
    }

    /** All that can be told of an object, count(8) first; it is used up by that. */
    private static String wholeOf(ApproverWins x) {
        StringBuilder told = new StringBuilder("count(8) ").append(x.count(8)).append(", ").append(Asking.all(x));
        told.append(", texts ").append(x.count(2)).append(' ').append(x.count(3));
        told.append(", sheets");
        for (int i : new int[] {0, 1, 14, 28, 42, 56, 57, 59}) {
            told.append(' ').append(x.get(0, 0, i));
        }
        for (int i = 0; i < 3; i++) {
            told.append(' ').append(x.get(2, 2, i));
        }
        for (int s = 0; s < 4; s++) {
            x.get(s, 1, 0);
            told.append(' ').append(x.count(8)).append(' ').append(x.lose(s));
        }
        told.append(", terms ").append(x.set(0, 5)).append(' ').append(x.set(1, 5)).append(' ').append(x.set(2, 5));
        for (int text = 0; text < 2; text++) {
            for (int left = x.count(2 + text); left > 0; left--) {
                told.append(' ').append(x.digest()).append(' ').append(x.undo(text));
            }
        }
        return told.append(", seen ").append(x.forget()).toString();
    }

    private static final String[] WHOLE = new String[STATES * 6];

    /** Of such an object if nothing happened to it but this FINDING (0: not even that). */
    private static String wholeOfState(int state, int finding) {
        int at = state * 6 + finding;
        if (WHOLE[at] == null) {
            String whole = wholeOf(make(state));
            int latest = finding == 0 ? LATEST[state] : finding;
            WHOLE[at] = "count(8) " + latest + whole.substring(whole.indexOf(','));
        }
        return WHOLE[at];
    }

    private static void refused(int state, String call, Act act, int v, long want, int finding) {
        ApproverWins x = make(state);
        String told = call + " with " + v + ", " + TOLD[state];
        checks.due(told, act.answer(x, v), want);
        checks.due("all behind " + told, wholeOf(x), wholeOfState(state, finding));
    }

    /** Each number from low to high may be; all others are refused. */
    private static void range(int state, String call, int low, int high, long refusal, Act act) {
        for (int v : new int[] {low - 1, low - 2, high + 1, high + 2, high + 256, Checks.LOW, Checks.LOW + 1, Checks.HIGH}) {
            refused(state, call, act, v, refusal, NO_FINDING);
        }
        for (int v = low; v <= high; v++) {
            boolean isRefused = act.answer(make(state), v) == refusal;
            checks.due("is " + call + " with " + v + " refused, " + TOLD[state], isRefused ? 1 : 0, 0);
        }
    }

    private static void bad(int state, String call, int low, int high, Act act) {
        range(state, call, low, high, Checks.BAD, act);
    }

    private static void longBad(int state, String call, int low, int high, Act act) {
        range(state, call, low, high, Checks.LONG_BAD, act);
    }

    // ---- too small, too large

    private static void texts(int state) {
        checks.says(2, "A byte (0 to 255) comes behind a text: how many. BAD; FULL.");
        bad(state, "type(v, 'f')", 0, 1, (x, v) -> x.type(v, 'f'));
        bad(state, "type(0, v)", 0, 255, (x, v) -> x.type(0, v));
        bad(state, "type(1, v)", 0, 255, (x, v) -> x.type(1, v));
        checks.says(3, "A text is empty: how many bytes it had. BAD.");
        bad(state, "wipe(v)", 0, 1, (x, v) -> x.wipe(v));
        checks.says(4, "BAD; NOT: it is empty.");
        bad(state, "undo(v)", 0, 1, (x, v) -> x.undo(v));
        checks.says(5, "The FAULT of a text; NONE. BAD.");
        bad(state, "fault(v)", 0, 1, (x, v) -> x.fault(v));
    }

    private static void felonsAndNames(int state) {
        int lastFelon = FELONS[state] - 1;
        int lastName = NAMES[state] - 1;
        checks.says(6, "FELLOW (4; as told; NONE) of a FELON. BAD.");
        bad(state, "felon(v, 0)", 0, lastFelon, (x, v) -> x.felon(v, 0));
        checks.says(7, "Who is the i-th of THE NAMES (0 to 11); NONE. BAD.");
        bad(state, "name(v)", 0, 11, (x, v) -> x.name(v));
        checks.says(9, "What comes of a NAME that there is (what = 0), by how many sixteenths he wins (1). BAD.");
        bad(state, "comes(v, 0)", 0, lastName, (x, v) -> x.comes(v, 0));
        bad(state, "comes(v, 1)", 0, lastName, (x, v) -> x.comes(v, 1));
        checks.says(10, "behind so many NAMES (0 to all). BAD.");
        bad(state, "behind(v, 0)", 0, lastName + 1, (x, v) -> x.behind(v, 0));
        bad(state, "behind(v, 1)", 0, lastName + 1, (x, v) -> x.behind(v, 1));
        bad(state, "behind(0, v)", 0, 1, (x, v) -> x.behind(0, v));
        checks.says(15, "FATE; NONE. BAD: no such FELON.");
        bad(state, "fate(v)", 0, lastFelon, (x, v) -> x.fate(v));
        checks.says(20, "CHAIN, as bits. BAD.");
        bad(state, "chain(v)", 0, lastFelon, (x, v) -> x.chain(v));
        checks.says(25, "KINDS, as bits. BAD.");
        bad(state, "kinds(v)", 0, lastFelon, (x, v) -> x.kinds(v));
        if (lastFelon >= 0) {
            checks.says(6, "Its kind (what = 0: 0 f, 1 c, 2 r, 3 d), how STRONG (1), GOODS (2), whether it is GUILTY (3: 1, 0)");
            bad(state, "felon(0, v)", 0, 4, (x, v) -> x.felon(0, v));
            bad(state, "felon(last, v)", 0, 4, (x, v) -> x.felon(lastFelon, v));
            checks.says(9, "by how many sixteenths he wins (1). BAD.");
            bad(state, "comes(0, v)", 0, 1, (x, v) -> x.comes(0, v));
            bad(state, "comes(last, v)", 0, 1, (x, v) -> x.comes(lastName, v));
        }
    }

    private static void terms(int state) {
        checks.says(8, "How STRONG he is (what = 0), WINS (1), BRIBE (2): what it was. BAD.");
        bad(state, "set(v, 5)", 0, 2, (x, v) -> x.set(v, 5));
        bad(state, "set(0, v)", 0, 9, (x, v) -> x.set(0, v));
        bad(state, "set(1, v)", 1, 8, (x, v) -> x.set(1, v));
        bad(state, "set(2, v)", 0, 9, (x, v) -> x.set(2, v));
    }

    private static void fractions(int state) {
        int all = NAMES[state];
        checks.says(0, "Where the answer is a long, a refusal -x is the least long and x more.");
        checks.due("BAD as a long", Checks.LONG_BAD, -9223372036854775806L);
        checks.says(11, "The chance that he is alive behind so many NAMES: above, below. BAD. (As the least long.)");
        longBad(state, "alive(v, 0)", 0, all, (x, v) -> x.alive(v, 0));
        longBad(state, "alive(v, 1)", 0, all, (x, v) -> x.alive(v, 1));
        longBad(state, "alive(0, v)", 0, 1, (x, v) -> x.alive(0, v));
        longBad(state, "alive(all, v)", 0, 1, (x, v) -> x.alive(all, v));
        checks.says(12, "LIVES: above, below. BAD. (As the least long.)");
        longBad(state, "lives(v)", 0, 1, (x, v) -> x.lives(v));
        checks.says(13, "HARM: above, below. BAD. (As the least long.)");
        longBad(state, "harm(v)", 0, 1, (x, v) -> x.harm(v));
        checks.says(17, "The chance by ORDER: above, below (0 by 1: NONE). BAD. (As the least long.)");
        longBad(state, "best(v)", 0, 1, (x, v) -> x.best(v));
    }

    private static void plans(int state) {
        checks.says(16, "ORDER: how many (i = NONE), the i-th (0 to 7; NONE); NONE. BAD.");
        bad(state, "order(v)", -1, 7, (x, v) -> x.order(v));
        checks.says(19, "RULE; NONE. BAD.");
        bad(state, "rule(v)", 0, 16, (x, v) -> x.rule(v));
        checks.says(34, "8 the number of the latest FINDING (0 before any). BAD.");
        bad(state, "count(v)", 0, 8, (x, v) -> x.count(v));
    }

    private static void seen(int state) {
        checks.says(21, "SEEN more: how many. BAD; FULL.");
        bad(state, "seen(v, 0)", 0, 7, (x, v) -> x.seen(v, 0));
        bad(state, "seen(7, v)", 0, 4, (x, v) -> x.seen(7, v));
        checks.says(23, "how many. BAD; NULL.");
        bad(state, "read(v)", 0, 3, (x, v) -> x.read(v));
        refused(state, "read(v), LOST", (x, v) -> x.read(v), 3, Checks.NULL, 1);
    }

    private static void gaols(int state) {
        checks.says(27, "GAOLS: how many times he LIVES (what = 0), how many innocents lose (1). BAD.");
        bad(state, "gaols(7, v, 0)", 1, 99, (x, v) -> x.gaols(7, v, 0));
        bad(state, "gaols(7, v, 1)", 1, 99, (x, v) -> x.gaols(7, v, 1));
        bad(state, "gaols(7, 1, v)", 0, 1, (x, v) -> x.gaols(7, 1, v));
        bad(state, "gaols(7, 99, v)", 0, 1, (x, v) -> x.gaols(7, 99, v));
        for (int seed : new int[] {Checks.LOW, -1, 0, 1, Checks.HIGH}) {
            checks.due("is gaols(" + seed + ", 1, 0) refused", make(state).gaols(seed, 1, 0) < 0 ? 1 : 0, 0);
        }
    }

    private static void sheets(int state) {
        checks.says(28, "BAD: SHEET, FORM, above 60; SIZE.");
        bad(state, "sheet(v, 0, 1)", 0, 3, (x, v) -> x.sheet(v, 0, 1));
        bad(state, "sheet(0, v, 1)", 0, 2, (x, v) -> x.sheet(0, v, 1));
        for (int above : new int[] {61, 62, 256, Checks.HIGH}) {
            refused(state, "sheet(0, 0, v)", (x, v) -> x.sheet(0, 0, v), above, Checks.BAD, NO_FINDING);
        }
        for (int below : new int[] {-1, -2, -61, Checks.LOW}) {
            refused(state, "sheet(2, 2, v)", (x, v) -> x.sheet(2, 2, v), below, Checks.SIZE, 5);
            refused(state, "sheet(3, 0, v)", (x, v) -> x.sheet(3, 0, v), below, Checks.SIZE, 5);
        }
        checks.says(29, "It is LOST: how many items it had. BAD; NULL.");
        bad(state, "lose(v)", 0, 3, (x, v) -> x.lose(v));
        refused(state, "lose(v), LOST", (x, v) -> x.lose(v), 3, Checks.NULL, 1);
        checks.says(30, "BAD; NULL; CAST; INDEX.");
        bad(state, "lay(v, 0, 0, 0)", 0, 3, (x, v) -> x.lay(v, 0, 0, 0));
        bad(state, "lay(0, v, 0, 0)", 0, 2, (x, v) -> x.lay(0, v, 0, 0));
        refused(state, "lay(v, 0, 0, 1), LOST", (x, v) -> x.lay(v, 0, 0, 1), 3, Checks.NULL, 1);
        checks.says(31, "BAD: the least int; so are NULL, CAST, INDEX (count() 8 tells).");
        for (int beside : new int[] {-1, 4, Checks.LOW, Checks.HIGH}) {
            refused(state, "get(v, 0, 0)", (x, v) -> x.get(v, 0, 0), beside, Checks.LOW, NO_FINDING);
        }
        for (int beside : new int[] {-1, 3, Checks.LOW, Checks.HIGH}) {
            refused(state, "get(0, v, 0)", (x, v) -> x.get(0, v, 0), beside, Checks.LOW, NO_FINDING);
        }
        refused(state, "get(v, 0, 0), LOST", (x, v) -> x.get(v, 0, 0), 3, Checks.LOW, 1);
        checks.says(32, "BAD: the SHEETS; NULL: s, t; STORE; INDEX: below 0, not so many.");
        bad(state, "copy(v, 0, 0, 0, 0)", 0, 3, (x, v) -> x.copy(v, 0, 0, 0, 0));
        bad(state, "copy(0, 0, v, 0, 0)", 0, 3, (x, v) -> x.copy(0, 0, v, 0, 0));
        refused(state, "copy(v, 0, 0, 0, 1), LOST", (x, v) -> x.copy(v, 0, 0, 0, 1), 3, Checks.NULL, 1);
        refused(state, "copy(0, 0, v, 0, 1), LOST", (x, v) -> x.copy(0, 0, v, 0, 1), 3, Checks.NULL, 1);
        checks.says(33, "as many as there are items and NAMES: how many. BAD; NULL.");
        bad(state, "write(v)", 0, 3, (x, v) -> x.write(v));
        refused(state, "write(v), LOST", (x, v) -> x.write(v), 3, Checks.NULL, 1);
    }

    private static void items(int state) {
        checks.says(0, "2 INDEX: there is no such item");
        int[] sizes = {60, 0, 3};
        for (int s = 0; s < 3; s++) {
            int sheet = s;
            for (int i : new int[] {-1, -2, sizes[s], sizes[s] + 1, sizes[s] + 256, Checks.LOW, Checks.HIGH}) {
                refused(state, "lay(" + s + ", its, v, 1)", (x, v) -> x.lay(sheet, sheet, v, 1), i, Checks.INDEX, 2);
                refused(state, "get(" + s + ", its, v)", (x, v) -> x.get(sheet, sheet, v), i, Checks.LOW, 2);
            }
        }
        checks.says(0, "3 CAST: it has another FORM");
        for (int s = 0; s < 3; s++) {
            int sheet = s;
            for (int form = 0; form < 3; form++) {
                if (form != s) {
                    refused(state, "lay(" + s + ", v, 0, 1)", (x, v) -> x.lay(sheet, v, 0, 1), form, Checks.CAST, 3);
                    refused(state, "get(" + s + ", v, 0)", (x, v) -> x.get(sheet, v, 0), form, Checks.LOW, 3);
                }
            }
        }
    }

    private static void stretches(int state) {
        checks.says(32, "INDEX: below 0, not so many.");
        for (int from : new int[] {-1, 60, 61, Checks.LOW, Checks.HIGH}) {
            refused(state, "copy(0, v, 0, 0, 1)", (x, v) -> x.copy(0, v, 0, 0, 1), from, Checks.INDEX, 2);
            refused(state, "copy(0, 0, 0, v, 1)", (x, v) -> x.copy(0, 0, 0, v, 1), from, Checks.INDEX, 2);
        }
        for (int from : new int[] {-1, 61, Checks.LOW, Checks.HIGH}) {
            refused(state, "copy(0, v, 0, 0, 0)", (x, v) -> x.copy(0, v, 0, 0, 0), from, Checks.INDEX, 2);
            refused(state, "copy(0, 0, 0, v, 0)", (x, v) -> x.copy(0, 0, 0, v, 0), from, Checks.INDEX, 2);
        }
        for (int n : new int[] {-1, 61, Checks.LOW, Checks.HIGH}) {
            refused(state, "copy(0, 0, 0, 0, v)", (x, v) -> x.copy(0, 0, 0, 0, v), n, Checks.INDEX, 2);
            refused(state, "copy(0, 60, 0, 0, v)", (x, v) -> x.copy(0, 60, 0, 0, v), n, Checks.INDEX, 2);
            refused(state, "copy(0, 1, 0, 1, v)", (x, v) -> x.copy(0, 1, 0, 1, v), n, Checks.INDEX, 2);
        }
        refused(state, "copy(0, 1, 0, 0, v)", (x, v) -> x.copy(0, 1, 0, 0, v), 60, Checks.INDEX, 2);
        refused(state, "copy(0, 0, 0, 1, v)", (x, v) -> x.copy(0, 0, 0, 1, v), 60, Checks.INDEX, 2);
        refused(state, "copy(1, 0, 1, 0, v), no items", (x, v) -> x.copy(1, 0, 1, 0, v), 1, Checks.INDEX, 2);
        checks.says(0, "4 STORE: unlike FORMS");
        for (int s = 0; s < 3; s++) {
            for (int t = 0; t < 3; t++) {
                int from = s;
                int to = t;
                if (s != t) {
                    refused(state, "copy(" + s + ", 0, " + t + ", 0, v)", (x, v) -> x.copy(from, 0, to, 0, v), 0, Checks.STORE, 4);
                }
            }
        }
    }

    // ---- the first that fits

    private static void orderOfTexts() {
        checks.says(0, "Refusals, the first that fits, in the order told at each act: "
            + "BAD -2 (a number not as told, no such thing), NULL, NOT -3 (as told), FULL -4, other FINDINGS.");
        for (int b : new int[] {-1, 256, Checks.LOW, Checks.HIGH}) {
            refused(FILLED, "type(0, v), BAD ahead of FULL", (x, v) -> x.type(0, v), b, Checks.BAD, NO_FINDING);
            refused(FILLED, "type(1, v), BAD ahead of FULL", (x, v) -> x.type(1, v), b, Checks.BAD, NO_FINDING);
        }
        for (int none : new int[] {-1, 8}) {
            refused(FILLED, "seen(v, 2), BAD ahead of FULL", (x, v) -> x.seen(v, 2), none, Checks.BAD, NO_FINDING);
        }
        for (int none : new int[] {-1, 5}) {
            refused(FILLED, "seen(6, v), BAD ahead of FULL", (x, v) -> x.seen(6, v), none, Checks.BAD, NO_FINDING);
        }
    }

    private static void orderOfSheets() {
        checks.says(28, "BAD: SHEET, FORM, above 60; SIZE.");
        for (int n : new int[] {-1, Checks.LOW}) {
            refused(ORDINARY, "sheet(4, 0, v), BAD ahead of SIZE", (x, v) -> x.sheet(4, 0, v), n, Checks.BAD, NO_FINDING);
            refused(ORDINARY, "sheet(-1, 0, v), BAD ahead of SIZE", (x, v) -> x.sheet(-1, 0, v), n, Checks.BAD, NO_FINDING);
            refused(ORDINARY, "sheet(0, 3, v), BAD ahead of SIZE", (x, v) -> x.sheet(0, 3, v), n, Checks.BAD, NO_FINDING);
            refused(ORDINARY, "sheet(0, -1, v), BAD ahead of SIZE", (x, v) -> x.sheet(0, -1, v), n, Checks.BAD, NO_FINDING);
        }
        checks.says(30, "BAD; NULL; CAST; INDEX.");
        refused(ORDINARY, "lay(3, v, 0, 1), BAD ahead of NULL", (x, v) -> x.lay(3, v, 0, 1), 3, Checks.BAD, NO_FINDING);
        refused(ORDINARY, "lay(2, v, 3, 1), BAD ahead of INDEX", (x, v) -> x.lay(2, v, 3, 1), 3, Checks.BAD, NO_FINDING);
        for (int form = 0; form < 3; form++) {
            refused(ORDINARY, "lay(3, v, -1, 1), NULL ahead of CAST, INDEX", (x, v) -> x.lay(3, v, -1, 1), form, Checks.NULL, 1);
            refused(ORDINARY, "get(3, v, -1), NULL ahead of CAST, INDEX", (x, v) -> x.get(3, v, -1), form, Checks.LOW, 1);
        }
        for (int i : new int[] {-1, 60}) {
            refused(ORDINARY, "lay(0, 1, v, 1), CAST ahead of INDEX", (x, v) -> x.lay(0, 1, v, 1), i, Checks.CAST, 3);
            refused(ORDINARY, "get(0, 1, v), CAST ahead of INDEX", (x, v) -> x.get(0, 1, v), i, Checks.LOW, 3);
        }
        refused(ORDINARY, "get(3, v, 0), BAD ahead of NULL", (x, v) -> x.get(3, v, 0), 3, Checks.LOW, NO_FINDING);
        ApproverWins x = new ApproverWins();
        x.sheet(0, 1, 2);
        x.lose(0);
        checks.due("lay(0, 0, 0, 1), of another FORM once, LOST now", x.lay(0, 0, 0, 1), Checks.NULL);
        checks.due("lay(0, 1, 0, 1), of that FORM once, LOST now", x.lay(0, 1, 0, 1), Checks.NULL);
    }

    private static void orderOfCopies() {
        checks.says(32, "BAD: the SHEETS; NULL: s, t; STORE; INDEX");
        for (int none : new int[] {-1, 4}) {
            refused(ORDINARY, "copy(3, 0, v, 0, 1), BAD ahead of NULL", (x, v) -> x.copy(3, 0, v, 0, 1), none, Checks.BAD, NO_FINDING);
            refused(ORDINARY, "copy(v, 0, 3, 0, 1), BAD ahead of NULL", (x, v) -> x.copy(v, 0, 3, 0, 1), none, Checks.BAD, NO_FINDING);
            refused(ORDINARY, "copy(v, -1, 0, 0, -1), BAD ahead of INDEX", (x, v) -> x.copy(v, -1, 0, 0, -1), none, Checks.BAD, NO_FINDING);
        }
        for (int t = 0; t < 4; t++) {
            refused(ORDINARY, "copy(3, -1, v, 0, -1), NULL ahead of all", (x, v) -> x.copy(3, -1, v, 0, -1), t, Checks.NULL, 1);
            refused(ORDINARY, "copy(v, -1, 3, 0, -1), NULL ahead of all", (x, v) -> x.copy(v, -1, 3, 0, -1), t, Checks.NULL, 1);
        }
        for (int n : new int[] {-1, 61}) {
            refused(ORDINARY, "copy(0, -1, 2, 0, v), STORE ahead of INDEX", (x, v) -> x.copy(0, -1, 2, 0, v), n, Checks.STORE, 4);
            refused(ORDINARY, "copy(2, 0, 0, 99, v), STORE ahead of INDEX", (x, v) -> x.copy(2, 0, 0, 99, v), n, Checks.STORE, 4);
        }
    }

    // ---- empty, full

    private static void nothingToUndo() {
        checks.says(4, "NOT: it is empty.");
        refused(NEW, "undo(v)", (x, v) -> x.undo(v), 0, Checks.NOT, NO_FINDING);
        refused(NEW, "undo(v)", (x, v) -> x.undo(v), 1, Checks.NOT, NO_FINDING);
    }

    private static void noRoom() {
        checks.says(2, "BAD; FULL.");
        for (int b : new int[] {0, 'a', ';', 255}) {
            refused(FILLED, "type(0, v)", (x, v) -> x.type(0, v), b, Checks.FULL, NO_FINDING);
            refused(FILLED, "type(1, v)", (x, v) -> x.type(1, v), b, Checks.FULL, NO_FINDING);
        }
        checks.says(21, "BAD; FULL.");
        for (int felon = 0; felon < 8; felon++) {
            refused(FILLED, "seen(v, 4)", (x, v) -> x.seen(v, 4), felon, Checks.FULL, NO_FINDING);
        }
    }

    // ---- many at once

    private static void changesNothing() {
        checks.says(0, "They change nothing (FINDINGS but count() 8).");
        ApproverWins x = make(FILLED);
        for (int i = 0; i < 3; i++) {
            x.type(0, 'f');
            x.type(2, 'f');
            x.seen(0, 0);
            x.seen(8, 0);
            x.set(1, 9);
            x.sheet(0, 0, 61);
            x.sheet(4, 0, 1);
            x.gaols(7, 0, 0);
        }
        checks.due("all behind 24 calls: BAD, FULL", wholeOf(x), wholeOfState(FILLED, NO_FINDING));
        x = make(ORDINARY);
        for (int i = 0; i < 3; i++) {
            x.lose(3);
            x.read(3);
            x.write(3);
            x.sheet(0, 0, -1);
            x.copy(0, 0, 2, 0, 1);
            x.copy(0, 1, 0, 0, 60);
            x.get(0, 0, 60);
            x.lay(0, 2, 0, 9);
        }
        checks.due("all behind 24 calls: FINDINGS, CAST the last", wholeOf(x), wholeOfState(ORDINARY, 3));
    }
}
