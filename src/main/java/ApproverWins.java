/**
 * A felon who turned approver: whom he names, what comes of each name, how likely he lives, and
 * the plans, guesses and sheets around that. The numbers behind the words are those of DOC.md.
 */
public final class ApproverWins {
    public static final int NONE = -1, BAD = -2, NOT = -3, FULL = -4;

    private static final int LEAST_INT = -2147483648;
    private static final long LEAST_LONG = -9223372036854775808L;

    private static final int FELONS = 8, NAMES = 12, FELON_BYTES = 47, BRIBES = 10, KINDS = 4;
    private static final int MOST_WINS = 8, MOST_SEEN = 8, FATES = 5, SHEETS = 4, FORMS = 3, ITEMS = 60;

    private static final int KIND = 0, STRONG = 1, GOODS = 2, GUILTY = 3, FELLOW = 4, PARTS = 5;
    private static final int CONFESSING = 1, RICH = 2, DEAD = 3;
    private static final int VOID = 0, CONFESSES = 1, SETTLES = 2, FIGHTS = 3, IDLE = 4;
    private static final int NULL = 1, INDEX = 2, CAST = 3, STORE = 4, SIZE = 5;

    private final Text felonText = new Text(FELON_BYTES);
    private final Text nameText = new Text(NAMES);
    private final Gang gang = new Gang();
    private final Names names = new Names();
    private final Terms terms = new Terms();
    /** What comes of THE NAMES as all stands now. */
    private final Course course = new Course();
    /** What would come of them if a term or a kind was another. */
    private final Course trial = new Course();
    private final Plan plan = new Plan();
    private final Sightings sightings = new Sightings();
    private final Sheet[] sheets = new Sheet[SHEETS];
    private final int[] tally = new int[FELONS * (FATES + 1)];
    private int latestFinding;

    public ApproverWins() {
        for (int s = 0; s < SHEETS; s++) {
            sheets[s] = new Sheet();
        }
        course.setOut(terms.strong, terms.wins);
    }

    // ---- felons, names

    public int type(int text, int b) {
        if (!isText(text) || b < 0 || b > 255) {
            return BAD;
        }
        Text typed = textOf(text);
        if (typed.isFull()) {
            return FULL;
        }
        typed.push(b);
        readAnew(text);
        return typed.size;
    }

    public int wipe(int text) {
        if (!isText(text)) {
            return BAD;
        }
        Text wiped = textOf(text);
        int had = wiped.size;
        wiped.size = 0;
        readAnew(text);
        return had;
    }

    public int undo(int text) {
        if (!isText(text)) {
            return BAD;
        }
        Text undone = textOf(text);
        if (undone.size == 0) {
            return NOT;
        }
        undone.size--;
        readAnew(text);
        return undone.size;
    }

    public int fault(int text) {
        if (!isText(text)) {
            return BAD;
        }
        return text == 0 ? gang.faultPlace : names.faultPlace;
    }

    public int felon(int felon, int what) {
        if (!gang.has(felon) || what < KIND || what > FELLOW) {
            return BAD;
        }
        return gang.part(felon, what);
    }

    public int name(int i) {
        if (i < 0 || i >= NAMES) {
            return BAD;
        }
        return names.whoAt(i);
    }

    public int set(int what, int v) {
        if (what < 0 || what > 2 || !Terms.allows(what, v)) {
            return BAD;
        }
        int was = terms.change(what, v);
        reckonAnew();
        return was;
    }

    // ---- names

    public int comes(int name, int what) {
        if (name < 0 || name >= names.size || !isEither(what)) {
            return BAD;
        }
        return what == 0 ? course.come[name] : course.sixteenths[name];
    }

    public int behind(int names, int what) {
        if (!isNumberOfNames(names) || !isEither(what)) {
            return BAD;
        }
        return what == 0 ? course.strong[names] : course.won[names];
    }

    public long alive(int names, int what) {
        if (!isNumberOfNames(names) || !isEither(what)) {
            return longRefusal(BAD);
        }
        return Fraction.told(course.above[names], Fraction.BITS * course.won[names], what);
    }

    public long lives(int what) {
        if (!isEither(what)) {
            return longRefusal(BAD);
        }
        return Fraction.told(course.livesAbove(), Fraction.BITS * course.goal, what);
    }

    public long harm(int what) {
        if (!isEither(what)) {
            return longRefusal(BAD);
        }
        return Fraction.told(course.harmAbove, Fraction.BITS * MOST_WINS, what);
    }

    public int worst() {
        return course.fewestSixteenths();
    }

    public int fate(int felon) {
        if (!gang.has(felon)) {
            return BAD;
        }
        return course.fateOf(felon);
    }

    // ---- plans

    public int order(int i) {
        if (i < NONE || i >= FELONS) {
            return BAD;
        }
        plan.makeOnce(gang, terms);
        if (plan.length == 0) {
            return NONE;
        }
        if (i == NONE) {
            return plan.length;
        }
        return i < plan.length ? plan.row[i] : NONE;
    }

    public long best(int what) {
        if (!isEither(what)) {
            return longRefusal(BAD);
        }
        plan.makeOnce(gang, terms);
        return Fraction.told(plan.above, Fraction.BITS * terms.wins, what);
    }

    public int price() {
        int likeliest = 0;
        long most = -1;
        for (int bribe = 0; bribe < BRIBES; bribe++) {
            tryBribe(bribe);
            // All are fractions of the same 16 to the WINS, so the numbers above may be compared.
            if (trial.livesAbove() > most) {
                most = trial.livesAbove();
                likeliest = bribe;
            }
        }
        return likeliest;
    }

    public int rule(int c) {
        if (c < 0 || c > Fraction.SIXTEEN) {
            return BAD;
        }
        for (int wins = MOST_WINS; wins >= 1; wins--) {
            trial.walk(gang, names, terms.strong, wins, terms.bribe);
            long whole = 1L << (Fraction.BITS * wins);
            if (trial.livesAbove() * Fraction.SIXTEEN >= c * whole) {
                return wins;
            }
        }
        return NONE;
    }

    public int chain(int felon) {
        if (!gang.has(felon)) {
            return BAD;
        }
        int reached = 0;
        int at = felon;
        for (int step = 0; step < FELONS && gang.has(at) && (reached >> at & 1) == 0; step++) {
            reached |= 1 << at;
            at = gang.part(at, GUILTY) == 1 ? gang.part(at, FELLOW) : NONE;
        }
        return reached;
    }

    // ---- seen, gaols

    public int seen(int felon, int fate) {
        if (!Sightings.allows(felon, fate)) {
            return BAD;
        }
        if (sightings.isFull()) {
            return FULL;
        }
        sightings.add(felon, fate);
        return sightings.size;
    }

    public int forget() {
        int had = sightings.size;
        sightings.size = 0;
        return had;
    }

    public int read(int s) {
        if (!isSheet(s)) {
            return BAD;
        }
        Sheet from = sheets[s];
        if (from.isLost) {
            return finding(NULL);
        }
        int taken = 0;
        for (int i = 0; i + 1 < from.size; i += 2) {
            int felon = from.row[i];
            int fate = from.row[i + 1];
            if (!Sightings.allows(felon, fate) || sightings.isFull()) {
                break;
            }
            sightings.add(felon, fate);
            taken++;
        }
        return taken;
    }

    public int bribes() {
        int bits = 0;
        for (int bribe = 0; bribe < BRIBES; bribe++) {
            tryBribe(bribe);
            if (sightings.comeOutBy(trial)) {
                bits |= 1 << bribe;
            }
        }
        return bits;
    }

    public int kinds(int felon) {
        if (!gang.has(felon)) {
            return BAD;
        }
        int own = gang.part(felon, KIND);
        int bits = 0;
        for (int kind = 0; kind < KINDS; kind++) {
            gang.putKind(felon, kind);
            tryBribe(terms.bribe);
            if (sightings.comeOutBy(trial)) {
                bits |= 1 << kind;
            }
        }
        gang.putKind(felon, own);
        return bits;
    }

    public int ask() {
        tallyFates();
        int asked = NONE;
        int least = BRIBES + 1;
        for (int felon = 0; felon < gang.size; felon++) {
            int alike = mostAlike(felon);
            if (alike < least) {
                least = alike;
                asked = felon;
            }
        }
        return asked;
    }

    public int gaols(int seed, int n, int what) {
        if (n < 1 || n > 99 || !isEither(what)) {
            return BAD;
        }
        Lots lots = new Lots(seed);
        int lived = 0;
        int lost = 0;
        for (int time = 0; time < n; time++) {
            int stopped = course.playTill(lots);
            lost += course.innocentsAhead[stopped];
            if (stopped == course.length && course.hasAllWins()) {
                lived++;
            }
        }
        return what == 0 ? lived : lost;
    }

    // ---- sheets

    public int sheet(int s, int form, int n) {
        if (!isSheet(s) || !isForm(form) || n > ITEMS) {
            return BAD;
        }
        if (n < 0) {
            return finding(SIZE);
        }
        sheets[s].renew(form, n);
        return n;
    }

    public int lose(int s) {
        if (!isSheet(s)) {
            return BAD;
        }
        if (sheets[s].isLost) {
            return finding(NULL);
        }
        sheets[s].isLost = true;
        return sheets[s].size;
    }

    public int lay(int s, int form, int i, int v) {
        if (!isSheet(s) || !isForm(form)) {
            return BAD;
        }
        int found = sheets[s].findingAt(form, i);
        if (found != 0) {
            return finding(found);
        }
        sheets[s].put(i, v);
        return 1;
    }

    public int get(int s, int form, int i) {
        if (!isSheet(s) || !isForm(form)) {
            return LEAST_INT;
        }
        int found = sheets[s].findingAt(form, i);
        if (found != 0) {
            latestFinding = found;
            return LEAST_INT;
        }
        return sheets[s].row[i];
    }

    public int copy(int s, int i, int t, int j, int n) {
        if (!isSheet(s) || !isSheet(t)) {
            return BAD;
        }
        Sheet from = sheets[s];
        Sheet to = sheets[t];
        if (from.isLost || to.isLost) {
            return finding(NULL);
        }
        if (from.form != to.form) {
            return finding(STORE);
        }
        if (!from.hasStretch(i, n) || !to.hasStretch(j, n)) {
            return finding(INDEX);
        }
        System.arraycopy(from.row, i, to.row, j, n);
        return 1;
    }

    public int write(int s) {
        if (!isSheet(s)) {
            return BAD;
        }
        Sheet to = sheets[s];
        if (to.isLost) {
            return finding(NULL);
        }
        int written = Math.min(to.size, names.size);
        for (int i = 0; i < written; i++) {
            to.put(i, course.come[i]);
        }
        return written;
    }

    public int count(int what) {
        switch (what) {
            case 0: return gang.size;
            case 1: return names.size;
            case 2: return felonText.size;
            case 3: return nameText.size;
            case 4: return course.numberOfFights();
            case 5: return course.won[course.length];
            case 6: return course.numberNotVoid(gang.size);
            case 7: return sightings.size;
            case 8: return latestFinding;
            default: return BAD;
        }
    }

    public long digest() {
        long h = 17;
        for (int what = 0; what <= 7; what++) {
            h = 31 * h + count(what);
        }
        h = 31 * h + fault(0);
        h = 31 * h + fault(1);
        h = digestOfPlans(digestOfNames(digestOfFelons(h)));
        h = 31 * h + bribes();
        h = 31 * h + ask();
        h = 31 * h + gaols(7, 30, 0);
        return 31 * h + gaols(7, 30, 1);
    }

    private long digestOfFelons(long start) {
        long h = start;
        for (int felon = 0; felon < gang.size; felon++) {
            for (int what = KIND; what <= FELLOW; what++) {
                h = 31 * h + felon(felon, what);
            }
            h = 31 * h + fate(felon);
            h = 31 * h + chain(felon);
            h = 31 * h + kinds(felon);
        }
        return h;
    }

    private long digestOfNames(long start) {
        long h = start;
        for (int i = 0; i < names.size; i++) {
            h = 31 * h + name(i);
            h = 31 * h + comes(i, 0);
            h = 31 * h + comes(i, 1);
        }
        for (int i = 0; i <= names.size; i++) {
            h = 31 * h + behind(i, 0);
            h = 31 * h + behind(i, 1);
            h = 31 * h + alive(i, 0);
            h = 31 * h + alive(i, 1);
        }
        return h;
    }

    private long digestOfPlans(long start) {
        long h = 31 * start + lives(0);
        h = 31 * h + lives(1);
        h = 31 * h + harm(0);
        h = 31 * h + harm(1);
        h = 31 * h + worst();
        h = 31 * h + order(NONE);
        h = 31 * h + order(0);
        h = 31 * h + best(0);
        h = 31 * h + best(1);
        h = 31 * h + price();
        h = 31 * h + rule(4);
        return 31 * h + rule(9);
    }

    private static boolean isText(int text) {
        return text == 0 || text == 1;
    }

    private static boolean isEither(int what) {
        return what == 0 || what == 1;
    }

    private static boolean isSheet(int s) {
        return s >= 0 && s < SHEETS;
    }

    private static boolean isForm(int form) {
        return form >= 0 && form < FORMS;
    }

    private static long longRefusal(int refusal) {
        return LEAST_LONG - refusal;
    }

    private boolean isNumberOfNames(int n) {
        return n >= 0 && n <= names.size;
    }

    private Text textOf(int text) {
        return text == 0 ? felonText : nameText;
    }

    private int finding(int number) {
        latestFinding = number;
        return -10 - number;
    }

    private void readAnew(int text) {
        if (text == 0) {
            gang.parse(felonText);
        } else {
            names.parse(nameText);
        }
        reckonAnew();
    }

    private void reckonAnew() {
        course.walk(gang, names, terms.strong, terms.wins, terms.bribe);
        plan.isMade = false;
    }

    private void tryBribe(int bribe) {
        trial.walk(gang, names, terms.strong, terms.wins, bribe);
    }

    /** By how many of the BRIBES that fit all SEEN each FELON has each FATE, NONE the first. */
    private void tallyFates() {
        for (int i = 0; i < tally.length; i++) {
            tally[i] = 0;
        }
        for (int bribe = 0; bribe < BRIBES; bribe++) {
            tryBribe(bribe);
            if (sightings.comeOutBy(trial)) {
                for (int felon = 0; felon < FELONS; felon++) {
                    tally[felon * (FATES + 1) + trial.fateOf(felon) + 1]++;
                }
            }
        }
    }

    private int mostAlike(int felon) {
        int most = 0;
        for (int fate = NONE; fate < FATES; fate++) {
            most = Math.max(most, tally[felon * (FATES + 1) + fate + 1]);
        }
        return most;
    }

    /** Bytes one behind the other, up to a limit. */
    private static final class Text {
        final int[] row;
        int size;

        Text(int limit) {
            row = new int[Math.max(0, limit)];
        }

        boolean isFull() {
            return size >= row.length;
        }

        void push(int b) {
            if (size < row.length) {
                row[size] = b;
                size++;
            }
        }

        int byteAt(int i) {
            return i >= 0 && i < size ? row[i] : NONE;
        }
    }

    /** The FELONS of text 0; none if it has a FAULT. */
    private static final class Gang {
        private static final int STRIDE = 6;

        final int[] parts = new int[FELONS * PARTS];
        int size;
        int faultPlace = NONE;

        void parse(Text text) {
            faultPlace = placeOfFault(text);
            // A FELON has 5 bytes and a ; behind it, but for the last.
            size = faultPlace == NONE ? Math.min(FELONS, (text.size + 1) / STRIDE) : 0;
            for (int felon = 0; felon < size; felon++) {
                int from = felon * STRIDE;
                int to = felon * PARTS;
                parts[to + KIND] = kindOf(text.byteAt(from));
                parts[to + STRONG] = text.byteAt(from + 1) - '0';
                parts[to + GOODS] = text.byteAt(from + 2) - '0';
                parts[to + GUILTY] = text.byteAt(from + 3) == 'g' ? 1 : 0;
                parts[to + FELLOW] = text.byteAt(from + 4) == '.' ? NONE : text.byteAt(from + 4) - '0';
            }
        }

        /** A ninth FELON needs no look: its first byte would be the 49th, and a text ends at 47. */
        private static int placeOfFault(Text text) {
            for (int i = 0; i < text.size; i++) {
                if (!fits(text.byteAt(i), i % STRIDE)) {
                    return i;
                }
            }
            boolean isEnded = text.size == 0 || text.size % STRIDE == STRIDE - 1;
            return isEnded ? NONE : text.size;
        }

        private static boolean fits(int b, int place) {
            switch (place) {
                case 0: return kindOf(b) != NONE;
                case 1:
                case 2: return b >= '0' && b <= '9';
                case 3: return b == 'g' || b == 'i';
                case 4: return b >= '0' && b <= '7' || b == '.';
                default: return b == ';';
            }
        }

        private static int kindOf(int b) {
            switch (b) {
                case 'f': return 0;
                case 'c': return CONFESSING;
                case 'r': return RICH;
                case 'd': return DEAD;
                default: return NONE;
            }
        }

        boolean has(int felon) {
            return felon >= 0 && felon < size;
        }

        int part(int felon, int what) {
            int at = felon * PARTS + what;
            return at >= 0 && at < parts.length ? parts[at] : NONE;
        }

        void putKind(int felon, int kind) {
            if (has(felon)) {
                parts[felon * PARTS + KIND] = kind;
            }
        }

        /** What comes of a FELON that is named for the first time, and not too late. */
        int answerOf(int felon, int bribe) {
            int kind = part(felon, KIND);
            if (kind == DEAD) {
                return IDLE;
            }
            if (kind == CONFESSING && part(felon, GUILTY) == 1) {
                return CONFESSES;
            }
            return kind == RICH && part(felon, GOODS) >= bribe ? SETTLES : FIGHTS;
        }
    }

    /** THE NAMES of text 1; none if it has a FAULT. */
    private static final class Names {
        final int[] row = new int[NAMES];
        int size;
        int faultPlace = NONE;

        void parse(Text text) {
            faultPlace = NONE;
            size = Math.min(NAMES, text.size);
            for (int i = 0; i < size; i++) {
                int letter = text.byteAt(i);
                if (letter < 'a' || letter > 'h') {
                    faultPlace = i;
                    size = 0;
                    return;
                }
                row[i] = letter - 'a';
            }
        }

        int whoAt(int i) {
            return i >= 0 && i < size ? row[i] : NONE;
        }
    }

    /** The APPROVER: how STRONG he is, the WINS that he must have, the BRIBE. */
    private static final class Terms {
        int strong = 5;
        int wins = 5;
        int bribe = 5;

        static boolean allows(int what, int v) {
            return what == 1 ? v >= 1 && v <= MOST_WINS : v >= 0 && v <= 9;
        }

        int change(int what, int v) {
            int was;
            if (what == 0) {
                was = strong;
                strong = v;
            } else if (what == 1) {
                was = wins;
                wins = v;
            } else {
                was = bribe;
                bribe = v;
            }
            return was;
        }
    }

    /** Numbers above a power of two; chances are kept as so many by 16 to the number of WINS. */
    private static final class Fraction {
        static final int SIXTEEN = 16, BITS = 4;

        static long told(long above, int bitsBelow, int what) {
            long top = above;
            int bits = bitsBelow;
            while (bits > 0 && (top & 1) == 0) {
                top >>= 1;
                bits--;
            }
            return what == 0 ? top : 1L << bits;
        }
    }

    /** What one NAME does to him: the same for THE NAMES and for a planned row. */
    private static final class Step {
        static boolean isWin(int come) {
            return come == CONFESSES || come == SETTLES || come == FIGHTS;
        }

        static int sixteenths(int come, int strong, int foe) {
            if (come != FIGHTS) {
                return Fraction.SIXTEEN;
            }
            return Math.max(0, Math.min(Fraction.SIXTEEN, 8 + strong - foe));
        }

        static int strongBehind(int come, int strong, int atFirst) {
            if (come == FIGHTS) {
                return strong > 0 ? strong - 1 : 0;
            }
            boolean isStronger = come == CONFESSES || come == SETTLES;
            return isStronger && strong < atFirst ? strong + 1 : strong;
        }
    }

    /** THE NAMES, one behind the other, each as if he is alive so far. */
    private static final class Course {
        final int[] come = new int[NAMES];
        final int[] sixteenths = new int[NAMES];
        final int[] strong = new int[NAMES + 1];
        final int[] won = new int[NAMES + 1];
        /** The chance that he is alive behind so many NAMES, by 16 to the WINS so far. */
        final long[] above = new long[NAMES + 1];
        /** How many innocents lost behind so many NAMES. */
        final int[] innocentsAhead = new int[NAMES + 1];
        final int[] fates = new int[FELONS];
        int length;
        int goal;
        long harmAbove;

        /** Ahead of any NAME. */
        void setOut(int strongAtFirst, int wins) {
            length = 0;
            goal = wins;
            harmAbove = 0;
            strong[0] = strongAtFirst;
            won[0] = 0;
            above[0] = 1;
            innocentsAhead[0] = 0;
            for (int felon = 0; felon < FELONS; felon++) {
                fates[felon] = NONE;
            }
        }

        void walk(Gang gang, Names names, int strongAtFirst, int wins, int bribe) {
            setOut(strongAtFirst, wins);
            length = names.size;
            for (int i = 0; i < length; i++) {
                int who = names.whoAt(i);
                boolean isVoid = won[i] >= goal || !gang.has(who) || fateOf(who) != NONE;
                come[i] = isVoid ? VOID : gang.answerOf(who, bribe);
                markFate(who, come[i]);
                stepBehind(i, gang.part(who, STRONG), gang.part(who, GUILTY) == 0);
            }
        }

        private void markFate(int who, int what) {
            if (who >= 0 && who < FELONS && fates[who] == NONE) {
                fates[who] = what;
            }
        }

        private void stepBehind(int i, int foe, boolean isInnocent) {
            sixteenths[i] = Step.sixteenths(come[i], strong[i], foe);
            strong[i + 1] = Step.strongBehind(come[i], strong[i], strong[0]);
            boolean isWin = Step.isWin(come[i]);
            won[i + 1] = isWin ? won[i] + 1 : won[i];
            above[i + 1] = isWin ? above[i] * sixteenths[i] : above[i];
            innocentsAhead[i + 1] = innocentsAhead[i];
            if (come[i] == FIGHTS && isInnocent) {
                innocentsAhead[i + 1]++;
                // All HARM is told by 16 to the most WINS there can be, so that it can be added.
                harmAbove += above[i + 1] << Fraction.BITS * (MOST_WINS - won[i + 1]);
            }
        }

        int fateOf(int felon) {
            return felon >= 0 && felon < FELONS ? fates[felon] : NONE;
        }

        boolean hasAllWins() {
            return won[length] >= goal;
        }

        long livesAbove() {
            return hasAllWins() ? above[length] : 0;
        }

        int fewestSixteenths() {
            int worst = NONE;
            int fewest = Fraction.SIXTEEN + 1;
            for (int i = 0; i < length; i++) {
                if (sixteenths[i] < fewest) {
                    fewest = sixteenths[i];
                    worst = i;
                }
            }
            return worst;
        }

        int numberOfFights() {
            int fights = 0;
            for (int i = 0; i < length; i++) {
                if (come[i] == FIGHTS) {
                    fights++;
                }
            }
            return fights;
        }

        int numberNotVoid(int felons) {
            int number = 0;
            for (int felon = 0; felon < felons; felon++) {
                if (fateOf(felon) > VOID) {
                    number++;
                }
            }
            return number;
        }

        /** THE NAMES once, by LOTS: the NAME at which he dies; all of them, if he does not. */
        int playTill(Lots lots) {
            for (int i = 0; i < length; i++) {
                if (come[i] == FIGHTS && lots.draw(Fraction.SIXTEEN) >= sixteenths[i]) {
                    return i;
                }
            }
            return length;
        }
    }

    /** ORDER: the row of FELONS by which he LIVES likeliest. */
    private static final class Plan {
        private static final int STRENGTHS = 10;

        /** By the FELONS named so far, as bits, and how STRONG he is: the best that can come. */
        final long[] value = new long[(1 << FELONS) * STRENGTHS];
        /** By a FELON and how STRONG he is: by what its NAME multiplies, and how STRONG it leaves him. */
        final int[] factor = new int[FELONS * STRENGTHS];
        final int[] strongBehind = new int[FELONS * STRENGTHS];
        final int[] row = new int[FELONS];
        int felons;
        int living;
        int atFirst;
        int goal;
        int length;
        long above;
        boolean isMade;

        /** ORDER is the dearest thing to reckon, so it is kept till a text or a term changes. */
        void makeOnce(Gang gang, Terms terms) {
            if (isMade) {
                return;
            }
            felons = Math.min(FELONS, gang.size);
            atFirst = Math.max(0, Math.min(STRENGTHS - 1, terms.strong));
            goal = terms.wins;
            living = 0;
            for (int felon = 0; felon < felons; felon++) {
                prepare(felon, gang.answerOf(felon, terms.bribe), gang.part(felon, STRONG));
            }
            fillValues();
            above = value[atFirst];
            length = 0;
            if (above > 0) {
                layRow();
            }
            isMade = true;
        }

        private void prepare(int felon, int come, int foe) {
            boolean isWin = Step.isWin(come);
            living |= isWin ? 1 << felon : 0;
            for (int strong = 0; strong <= atFirst; strong++) {
                int at = felon * STRENGTHS + strong;
                factor[at] = isWin ? Step.sixteenths(come, strong, foe) : 1;
                strongBehind[at] = Step.strongBehind(come, strong, atFirst);
            }
        }

        private int winsOf(int named) {
            return Integer.bitCount(named & living);
        }

        /** From all named down to none, so that what lies behind a state is always known. */
        private void fillValues() {
            for (int named = (1 << felons) - 1; named >= 0; named--) {
                int wins = winsOf(named);
                // Each WIN takes 1 of his strength at most, so he can't be weaker than this.
                for (int strong = Math.max(0, atFirst - wins); strong <= atFirst; strong++) {
                    value[named * STRENGTHS + strong] = wins >= goal ? 1 : mostBehind(named, strong);
                }
            }
        }

        private long mostBehind(int named, int strong) {
            long most = 0;
            for (int felon = 0; felon < felons; felon++) {
                if ((named >> felon & 1) == 0) {
                    most = Math.max(most, valueIfNext(named, strong, felon));
                }
            }
            return most;
        }

        private long valueIfNext(int named, int strong, int felon) {
            int at = felon * STRENGTHS + strong;
            return factor[at] * value[(named | 1 << felon) * STRENGTHS + strongBehind[at]];
        }

        /** The least FELON that loses nothing, again and again, is the least of the best rows. */
        private void layRow() {
            int named = 0;
            int strong = atFirst;
            for (int i = 0; i < felons && winsOf(named) < goal; i++) {
                int next = leastNext(named, strong);
                if (next == NONE) {
                    break;
                }
                row[i] = next;
                length = i + 1;
                named |= 1 << next;
                strong = strongBehind[next * STRENGTHS + strong];
            }
        }

        private int leastNext(int named, int strong) {
            long most = value[named * STRENGTHS + strong];
            for (int felon = 0; felon < felons; felon++) {
                if ((named >> felon & 1) == 0 && valueIfNext(named, strong, felon) == most) {
                    return felon;
                }
            }
            return NONE;
        }
    }

    /** What was SEEN: which FELON had which FATE. */
    private static final class Sightings {
        final int[] felons = new int[MOST_SEEN];
        final int[] fates = new int[MOST_SEEN];
        int size;

        static boolean allows(int felon, int fate) {
            return felon >= 0 && felon < FELONS && fate >= 0 && fate < FATES;
        }

        boolean isFull() {
            return size >= MOST_SEEN;
        }

        void add(int felon, int fate) {
            if (size < MOST_SEEN) {
                felons[size] = felon;
                fates[size] = fate;
                size++;
            }
        }

        boolean comeOutBy(Course course) {
            for (int i = 0; i < size; i++) {
                if (course.fateOf(felons[i]) != fates[i]) {
                    return false;
                }
            }
            return true;
        }
    }

    /** LOTS, by a SEED. */
    private static final class Lots {
        private int seed;

        Lots(int seed) {
            this.seed = seed;
        }

        int draw(int m) {
            seed = 1103515245 * seed + 12345;
            return m > 0 ? (seed >>> 16) % m : 0;
        }
    }

    /** A SHEET: its row is kept when it is LOST, and used again. */
    private static final class Sheet {
        final int[] row = new int[ITEMS];
        boolean isLost = true;
        int form;
        int size;

        void renew(int newForm, int newSize) {
            isLost = false;
            form = newForm;
            size = Math.max(0, Math.min(ITEMS, newSize));
            for (int i = 0; i < ITEMS; i++) {
                row[i] = 0;
            }
        }

        /** Why item i, treated as of a FORM, can't be had; 0: it can. */
        int findingAt(int asForm, int i) {
            if (isLost) {
                return NULL;
            }
            if (form != asForm) {
                return CAST;
            }
            return i < 0 || i >= size ? INDEX : 0;
        }

        void put(int i, int v) {
            if (i >= 0 && i < size) {
                row[i] = form == 0 ? (byte) v : form == 1 ? (short) v : v;
            }
        }

        boolean hasStretch(int from, int n) {
            return from >= 0 && n >= 0 && from <= size && n <= size - from;
        }
    }
}
