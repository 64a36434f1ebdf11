import java.math.BigInteger;
import java.util.ArrayList;
import java.util.Arrays;
import java.util.Collections;
import java.util.HashMap;
import java.util.List;
import java.util.Map;

/**
 * The whole document a second time, in its plainest form: no more is kept than the texts, the terms, what was
 * SEEN and the SHEETS, and each call reckons all it needs from these. It shares nothing with the class.
 */
final class Model {
    private static final long BAD = -2, NOT = -3, FULL = -4;
    private static final BigInteger SIXTEEN = BigInteger.valueOf(16);

    private record Felon(int kind, int strong, int goods, boolean guilty, int fellow) {
    }

    private record Ratio(BigInteger above, BigInteger below) {
        static final Ratio ZERO = new Ratio(BigInteger.ZERO, BigInteger.ONE);
        static final Ratio ONE = new Ratio(BigInteger.ONE, BigInteger.ONE);

        Ratio bySixteenths(int n) {
            return new Ratio(above.multiply(BigInteger.valueOf(n)), below.multiply(SIXTEEN));
        }

        Ratio plus(Ratio other) {
            return new Ratio(above.multiply(other.below).add(other.above.multiply(below)), below.multiply(other.below));
        }

        boolean isLess(Ratio other) {
            return above.multiply(other.below).compareTo(other.above.multiply(below)) < 0;
        }

        long told(int what) {
            BigInteger common = above.gcd(below);
            return (what == 0 ? above : below).divide(common).longValueExact();
        }
    }

    /** What comes of one NAME, and how it stands behind it. */
    private record Turn(int who, int come, int sixteenths, int strong, int wins, Ratio alive, Ratio harm) {
    }

    private final StringBuilder[] texts = {new StringBuilder(), new StringBuilder()};
    private final int[] terms = {5, 5, 5};
    private final List<int[]> seen = new ArrayList<>();
    /** bytes, shorts or ints; null: LOST. */
    private final Object[] sheets = new Object[4];
    private int latest = 0;
    private final Map<String, List<Integer>> bestRows = new HashMap<>();

    long answer(String call, int... n) {
        switch (call) {
            case "type": return type(n[0], n[1]);
            case "wipe": return isIn(n[0], 0, 1) ? shorten(n[0], texts[n[0]].length()) : BAD;
            case "undo": return !isIn(n[0], 0, 1) ? BAD : texts[n[0]].length() == 0 ? NOT : undo(n[0]);
            case "fault": return isIn(n[0], 0, 1) ? fault(n[0]) : BAD;
            case "felon": return isFelon(n[0]) && isIn(n[1], 0, 4) ? part(felons().get(n[0]), n[1]) : BAD;
            case "name": return !isIn(n[0], 0, 11) ? BAD : n[0] < names().size() ? names().get(n[0]) : -1;
            case "set": return set(n[0], n[1]);
            case "comes": return comes(n[0], n[1]);
            case "behind": return behind(n[0], n[1]);
            case "alive": return alive(n[0], n[1]);
            case "lives": return isIn(n[0], 0, 1) ? livesBy(turns(), terms[1]).told(n[0]) : Long.MIN_VALUE + 2;
            case "harm": return isIn(n[0], 0, 1) ? turns().get(names().size()).harm.told(n[0]) : Long.MIN_VALUE + 2;
            case "worst": return worst();
            case "fate": return isFelon(n[0]) ? fateBy(turns(), n[0]) : BAD;
            case "order": return order(n[0]);
            case "best": return isIn(n[0], 0, 1) ? livesBy(turnsOf(felons(), bestRow(), terms), terms[1]).told(n[0]) : Long.MIN_VALUE + 2;
            case "price": return price();
            case "rule": return isIn(n[0], 0, 16) ? rule(n[0]) : BAD;
            case "chain": return isFelon(n[0]) ? chain(n[0]) : BAD;
            default: return answerFurther(call, n);
        }
    }

    private long answerFurther(String call, int... n) {
        switch (call) {
            case "seen": return see(n[0], n[1]);
            case "forget": return forget();
            case "read": return !isIn(n[0], 0, 3) ? BAD : sheets[n[0]] == null ? find(1) : read(sheets[n[0]]);
            case "bribes": return bits(fittingBribes());
            case "kinds": return isFelon(n[0]) ? kinds(n[0]) : BAD;
            case "ask": return ask();
            case "gaols": return isIn(n[1], 1, 99) && isIn(n[2], 0, 1) ? gaols(n[0], n[1])[n[2]] : BAD;
            case "sheet": return sheet(n[0], n[1], n[2]);
            case "lose": return !isIn(n[0], 0, 3) ? BAD : sheets[n[0]] == null ? find(1) : lose(n[0]);
            case "lay": return lay(n[0], n[1], n[2], n[3]);
            case "get": return get(n[0], n[1], n[2]);
            case "copy": return copy(n[0], n[1], n[2], n[3], n[4]);
            case "write": return !isIn(n[0], 0, 3) ? BAD : sheets[n[0]] == null ? find(1) : write(sheets[n[0]]);
            case "count": return count(n[0]);
            case "digest": return digest();
            default: throw new IllegalStateException("no such call: " + call);
        }
    }

    private static boolean isIn(int number, int least, int most) {
        return least <= number && number <= most;
    }

    private long find(int number) {
        latest = number;
        return -10 - number;
    }

    // ---- felons, names

    private long type(int text, int b) {
        if (!isIn(text, 0, 1) || !isIn(b, 0, 255)) {
            return BAD;
        }
        return texts[text].length() == (text == 0 ? 47 : 12) ? FULL : texts[text].append((char) b).length();
    }

    private long shorten(int text, int by) {
        texts[text].setLength(texts[text].length() - by);
        return by;
    }

    private long undo(int text) {
        shorten(text, 1);
        return texts[text].length();
    }

    /** The shortest start of the text that no text that is well begins with, less its last byte. */
    private int fault(int text) {
        String whole = texts[text].toString();
        if (isWell(text, whole)) {
            return -1;
        }
        for (int i = 0; i < whole.length(); i++) {
            if (!canGoOn(text, whole.substring(0, i + 1))) {
                return i;
            }
        }
        return whole.length();
    }

    private static boolean isWell(int text, String s) {
        String felon = "[fcrd][0-9][0-9][gi][0-7.]";
        return text == 1 ? s.matches("[a-h]*") : s.isEmpty() || s.matches(felon + "(;" + felon + "){0,7}");
    }

    private static boolean canGoOn(int text, String start) {
        String felon = "f00g.";
        String end = felon.substring(Math.min(5, start.length() % 6));
        return isWell(text, start) || text == 0 && isWell(text, start + end);
    }

    private List<Felon> felons() {
        List<Felon> felons = new ArrayList<>();
        String text = texts[0].toString();
        if (text.isEmpty() || !isWell(0, text)) {
            return felons;
        }
        for (String one : text.split(";")) {
            int fellow = one.charAt(4) == '.' ? -1 : one.charAt(4) - '0';
            felons.add(new Felon("fcrd".indexOf(one.charAt(0)), one.charAt(1) - '0', one.charAt(2) - '0',
                one.charAt(3) == 'g', fellow));
        }
        return felons;
    }

    private List<Integer> names() {
        List<Integer> names = new ArrayList<>();
        for (char letter : isWell(1, texts[1].toString()) ? texts[1].toString().toCharArray() : new char[0]) {
            names.add(letter - 'a');
        }
        return names;
    }

    private boolean isFelon(int felon) {
        return isIn(felon, 0, felons().size() - 1);
    }

    private static long part(Felon felon, int what) {
        int guilty = felon.guilty ? 1 : 0;
        return new int[] {felon.kind, felon.strong, felon.goods, guilty, felon.fellow}[what];
    }

    private long set(int what, int v) {
        if (!isIn(what, 0, 2) || !isIn(v, what == 1 ? 1 : 0, what == 1 ? 8 : 9)) {
            return BAD;
        }
        int was = terms[what];
        terms[what] = v;
        return was;
    }

    // ---- names

    private List<Turn> turns() {
        return turnsOf(felons(), names(), terms);
    }

    /** The first turn is ahead of any NAME. */
    private static List<Turn> turnsOf(List<Felon> felons, List<Integer> names, int[] by) {
        List<Turn> turns = new ArrayList<>();
        turns.add(new Turn(-1, -1, -1, by[0], 0, Ratio.ONE, Ratio.ZERO));
        for (int i = 0; i < names.size(); i++) {
            turns.add(turnBehind(turns, felons, names.get(i), by));
        }
        return turns;
    }

    private static Turn turnBehind(List<Turn> turns, List<Felon> felons, int who, int[] by) {
        Turn was = turns.get(turns.size() - 1);
        boolean isNamed = turns.stream().anyMatch(turn -> turn.who == who);
        if (was.wins == by[1] || who >= felons.size() || isNamed) {
            return new Turn(who, 0, 16, was.strong, was.wins, was.alive, was.harm);
        }
        Felon felon = felons.get(who);
        if (felon.kind == 3) {
            return new Turn(who, 4, 16, was.strong, was.wins, was.alive, was.harm);
        }
        boolean confesses = felon.kind == 1 && felon.guilty;
        if (confesses || felon.kind == 2 && felon.goods >= by[2]) {
            int stronger = Math.min(by[0], was.strong + 1);
            return new Turn(who, confesses ? 1 : 2, 16, stronger, was.wins + 1, was.alive, was.harm);
        }
        int sixteenths = Math.min(16, Math.max(0, 8 + was.strong - felon.strong));
        Ratio alive = was.alive.bySixteenths(sixteenths);
        Ratio harm = felon.guilty ? was.harm : was.harm.plus(alive);
        return new Turn(who, 3, sixteenths, Math.max(0, was.strong - 1), was.wins + 1, alive, harm);
    }

    private static Ratio livesBy(List<Turn> turns, int wins) {
        Turn last = turns.get(turns.size() - 1);
        return last.wins == wins ? last.alive : Ratio.ZERO;
    }

    private static int fateBy(List<Turn> turns, int felon) {
        return turns.stream().filter(turn -> turn.who == felon).mapToInt(Turn::come).findFirst().orElse(-1);
    }

    private long comes(int name, int what) {
        if (!isIn(name, 0, names().size() - 1) || !isIn(what, 0, 1)) {
            return BAD;
        }
        Turn turn = turns().get(name + 1);
        return what == 0 ? turn.come : turn.sixteenths;
    }

    private long behind(int names, int what) {
        if (!isIn(names, 0, names().size()) || !isIn(what, 0, 1)) {
            return BAD;
        }
        return what == 0 ? turns().get(names).strong : turns().get(names).wins;
    }

    private long alive(int names, int what) {
        if (!isIn(names, 0, names().size()) || !isIn(what, 0, 1)) {
            return Long.MIN_VALUE + 2;
        }
        return turns().get(names).alive.told(what);
    }

    private long worst() {
        List<Integer> sixteenths = new ArrayList<>();
        turns().stream().skip(1).forEach(turn -> sixteenths.add(turn.sixteenths));
        return sixteenths.isEmpty() ? -1 : sixteenths.indexOf(Collections.min(sixteenths));
    }

    // ---- plans

    /** Kept by all that it hangs on, as there are up to 109,601 rows to look at. */
    private List<Integer> bestRow() {
        return bestRows.computeIfAbsent(texts[0] + Arrays.toString(terms), key -> {
            List<Turn> start = turnsOf(felons(), List.of(), terms);
            List<Turn> best = new ArrayList<>(start);
            lookBehind(felons(), start, best);
            return best.stream().skip(1).map(Turn::who).toList();
        });
    }

    /**
     * All rows, the least first. What goes on behind a row that has all his WINS is greater and no likelier; nor is
     * any row likelier than its start.
     */
    private void lookBehind(List<Felon> felons, List<Turn> row, List<Turn> best) {
        Turn last = row.get(row.size() - 1);
        if (!livesBy(best, terms[1]).isLess(last.alive)) {
            return;
        }
        if (last.wins == terms[1]) {
            best.clear();
            best.addAll(row);
            return;
        }
        for (int felon = 0; felon < felons.size(); felon++) {
            int who = felon;
            if (row.stream().noneMatch(turn -> turn.who == who)) {
                row.add(turnBehind(row, felons, who, terms));
                lookBehind(felons, row, best);
                row.remove(row.size() - 1);
            }
        }
    }

    private long order(int i) {
        if (!isIn(i, -1, 7)) {
            return BAD;
        }
        List<Integer> row = bestRow();
        if (i == -1) {
            return row.isEmpty() ? -1 : row.size();
        }
        return i < row.size() ? row.get(i) : -1;
    }

    private List<Turn> turnsBy(int what, int v) {
        int[] other = terms.clone();
        other[what] = v;
        return turnsOf(felons(), names(), other);
    }

    private long price() {
        int price = 0;
        for (int bribe = 1; bribe <= 9; bribe++) {
            if (livesBy(turnsBy(2, price), terms[1]).isLess(livesBy(turnsBy(2, bribe), terms[1]))) {
                price = bribe;
            }
        }
        return price;
    }

    private long rule(int c) {
        int rule = -1;
        for (int wins = 1; wins <= 8; wins++) {
            if (!livesBy(turnsBy(1, wins), wins).isLess(Ratio.ONE.bySixteenths(c))) {
                rule = wins;
            }
        }
        return rule;
    }

    /** As often as there can be FELONS: whoever is reached and GUILTY names its FELLOW. */
    private long chain(int felon) {
        List<Felon> felons = felons();
        int reached = 1 << felon;
        for (int time = 0; time < 8; time++) {
            for (int f = 0; f < felons.size(); f++) {
                Felon one = felons.get(f);
                if ((reached >> f & 1) == 1 && one.guilty && isIn(one.fellow, 0, felons.size() - 1)) {
                    reached |= 1 << one.fellow;
                }
            }
        }
        return reached;
    }

    // ---- seen, gaols

    private long see(int felon, int fate) {
        if (!isIn(felon, 0, 7) || !isIn(fate, 0, 4)) {
            return BAD;
        }
        if (seen.size() == 8) {
            return FULL;
        }
        seen.add(new int[] {felon, fate});
        return seen.size();
    }

    private long forget() {
        int had = seen.size();
        seen.clear();
        return had;
    }

    private long read(Object sheet) {
        int had = seen.size();
        for (int pair = 0; pair < size(sheet) / 2; pair++) {
            if (see(item(sheet, 2 * pair), item(sheet, 2 * pair + 1)) < 0) {
                break;
            }
        }
        return seen.size() - had;
    }

    private boolean comesOut(List<Turn> turns) {
        return seen.stream().allMatch(one -> fateBy(turns, one[0]) == one[1]);
    }

    private List<Integer> fittingBribes() {
        List<Integer> fitting = new ArrayList<>();
        for (int bribe = 0; bribe <= 9; bribe++) {
            if (comesOut(turnsBy(2, bribe))) {
                fitting.add(bribe);
            }
        }
        return fitting;
    }

    private static long bits(List<Integer> places) {
        return places.stream().mapToInt(place -> 1 << place).sum();
    }

    private long kinds(int felon) {
        List<Integer> fitting = new ArrayList<>();
        for (int kind = 0; kind <= 3; kind++) {
            List<Felon> felons = felons();
            Felon own = felons.get(felon);
            felons.set(felon, new Felon(kind, own.strong, own.goods, own.guilty, own.fellow));
            if (comesOut(turnsOf(felons, names(), terms))) {
                fitting.add(kind);
            }
        }
        return bits(fitting);
    }

    private long ask() {
        List<Integer> most = new ArrayList<>();
        List<List<Turn>> left = new ArrayList<>();
        fittingBribes().forEach(bribe -> left.add(turnsBy(2, bribe)));
        for (int felon = 0; felon < felons().size(); felon++) {
            int[] alike = new int[6];
            for (List<Turn> turns : left) {
                alike[fateBy(turns, felon) + 1]++;
            }
            most.add(Arrays.stream(alike).max().getAsInt());
        }
        return most.isEmpty() ? -1 : most.indexOf(Collections.min(most));
    }

    private int[] gaols(int start, int n) {
        int seed = start;
        int[] told = new int[2];
        List<Felon> felons = felons();
        List<Turn> turns = turns();
        for (int time = 0; time < n; time++) {
            boolean isAlive = true;
            int wins = 0;
            for (Turn turn : turns.subList(1, turns.size())) {
                if (turn.come == 3) {
                    seed = seed * 1103515245 + 12345;
                    isAlive = Math.floorMod(Math.floorDiv(seed, 65536), 16) < turn.sixteenths;
                    if (!isAlive) {
                        break;
                    }
                    told[1] += felons.get(turn.who).guilty ? 0 : 1;
                }
                wins = turn.wins;
            }
            told[0] += isAlive && wins == terms[1] ? 1 : 0;
        }
        return told;
    }

    // ---- sheets

    private static int formOf(Object sheet) {
        return sheet instanceof byte[] ? 0 : sheet instanceof short[] ? 1 : 2;
    }

    private static int size(Object sheet) {
        return java.lang.reflect.Array.getLength(sheet);
    }

    private static int item(Object sheet, int i) {
        return java.lang.reflect.Array.getInt(sheet, i);
    }

    private static void put(Object sheet, int i, int v) {
        if (sheet instanceof byte[] bytes) {
            bytes[i] = (byte) v;
        } else if (sheet instanceof short[] shorts) {
            shorts[i] = (short) v;
        } else {
            ((int[]) sheet)[i] = v;
        }
    }

    private long sheet(int s, int form, int n) {
        if (!isIn(s, 0, 3) || !isIn(form, 0, 2) || n > 60) {
            return BAD;
        }
        if (n < 0) {
            return find(5);
        }
        sheets[s] = form == 0 ? new byte[n] : form == 1 ? new short[n] : new int[n];
        return n;
    }

    private long lose(int s) {
        int had = size(sheets[s]);
        sheets[s] = null;
        return had;
    }

    /** 0: the item is there. */
    private int findingAt(int s, int form, int i) {
        if (sheets[s] == null) {
            return 1;
        }
        return formOf(sheets[s]) != form ? 3 : isIn(i, 0, size(sheets[s]) - 1) ? 0 : 2;
    }

    private long lay(int s, int form, int i, int v) {
        if (!isIn(s, 0, 3) || !isIn(form, 0, 2)) {
            return BAD;
        }
        if (findingAt(s, form, i) != 0) {
            return find(findingAt(s, form, i));
        }
        put(sheets[s], i, v);
        return 1;
    }

    private long get(int s, int form, int i) {
        if (!isIn(s, 0, 3) || !isIn(form, 0, 2)) {
            return Integer.MIN_VALUE;
        }
        if (findingAt(s, form, i) != 0) {
            find(findingAt(s, form, i));
            return Integer.MIN_VALUE;
        }
        return item(sheets[s], i);
    }

    private long copy(int s, int i, int t, int j, int n) {
        if (!isIn(s, 0, 3) || !isIn(t, 0, 3)) {
            return BAD;
        }
        if (sheets[s] == null || sheets[t] == null) {
            return find(1);
        }
        if (formOf(sheets[s]) != formOf(sheets[t])) {
            return find(4);
        }
        boolean isBelow = i < 0 || j < 0 || n < 0;
        if (isBelow || (long) i + n > size(sheets[s]) || (long) j + n > size(sheets[t])) {
            return find(2);
        }
        int[] were = new int[n];
        for (int k = 0; k < n; k++) {
            were[k] = item(sheets[s], i + k);
        }
        for (int k = 0; k < n; k++) {
            put(sheets[t], j + k, were[k]);
        }
        return 1;
    }

    private long write(Object sheet) {
        int written = 0;
        while (written < size(sheet) && written < names().size()) {
            put(sheet, written, turns().get(written + 1).come);
            written++;
        }
        return written;
    }

    private long count(int what) {
        switch (what) {
            case 0: return felons().size();
            case 1: return names().size();
            case 2: return texts[0].length();
            case 3: return texts[1].length();
            case 4: return turns().stream().filter(turn -> turn.come == 3).count();
            case 5: return turns().get(names().size()).wins;
            case 6: return turns().stream().filter(turn -> turn.come > 0).count();
            case 7: return seen.size();
            case 8: return latest;
            default: return BAD;
        }
    }

    private long digest() {
        List<Long> parts = new ArrayList<>();
        for (int what = 0; what <= 7; what++) {
            parts.add(answer("count", what));
        }
        parts.add(answer("fault", 0));
        parts.add(answer("fault", 1));
        for (int f = 0; f < felons().size(); f++) {
            for (int what = 0; what <= 4; what++) {
                parts.add(answer("felon", f, what));
            }
            Collections.addAll(parts, answer("fate", f), answer("chain", f), answer("kinds", f));
        }
        for (int i = 0; i < names().size(); i++) {
            Collections.addAll(parts, answer("name", i), answer("comes", i, 0), answer("comes", i, 1));
        }
        for (int i = 0; i <= names().size(); i++) {
            Collections.addAll(parts, answer("behind", i, 0), answer("behind", i, 1), answer("alive", i, 0), answer("alive", i, 1));
        }
        Collections.addAll(parts, answer("lives", 0), answer("lives", 1), answer("harm", 0), answer("harm", 1));
        Collections.addAll(parts, answer("worst"), answer("order", -1), answer("order", 0), answer("best", 0), answer("best", 1));
        Collections.addAll(parts, answer("price"), answer("rule", 4), answer("rule", 9), answer("bribes"), answer("ask"));
        Collections.addAll(parts, answer("gaols", 7, 30, 0), answer("gaols", 7, 30, 1));
        long h = 17;
        for (long part : parts) {
            h = 31 * h + part;
        }
        return h;
    }
}
