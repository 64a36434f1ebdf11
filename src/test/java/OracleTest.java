import java.math.BigInteger;
import java.util.ArrayList;
import java.util.Arrays;
import java.util.List;
import java.util.Random;

/**
 * Random states against a second, slow reckoning of the document's words: chances as pairs of big
 * numbers, ORDER by looking at every row. Nothing here is shared with the class.
 */
public final class OracleTest {
    private static int wrong = 0;

    private static final class Felon {
        char kind;
        int strong;
        int goods;
        boolean guilty;
        int fellow;
    }

    private static final class Ratio implements Comparable<Ratio> {
        final BigInteger above;
        final BigInteger below;

        Ratio(BigInteger above, BigInteger below) {
            BigInteger common = above.gcd(below);
            this.above = above.divide(common);
            this.below = below.divide(common);
        }

        static Ratio of(long above, long below) {
            return new Ratio(BigInteger.valueOf(above), BigInteger.valueOf(below));
        }

        Ratio times(Ratio other) {
            return new Ratio(above.multiply(other.above), below.multiply(other.below));
        }

        Ratio plus(Ratio other) {
            BigInteger sum = above.multiply(other.below).add(other.above.multiply(below));
            return new Ratio(sum, below.multiply(other.below));
        }

        @Override
        public int compareTo(Ratio other) {
            return above.multiply(other.below).compareTo(other.above.multiply(below));
        }
    }

    /** What comes of a row of names. */
    private static final class Told {
        List<Integer> come = new ArrayList<>();
        List<Integer> sixteenths = new ArrayList<>();
        List<Integer> strong = new ArrayList<>();
        List<Integer> wins = new ArrayList<>();
        List<Ratio> alive = new ArrayList<>();
        Ratio harm = Ratio.of(0, 1);
        Ratio lives = Ratio.of(0, 1);

        int fate(int felon, List<Integer> names) {
            int at = names.indexOf(felon);
            return at < 0 ? -1 : come.get(at);
        }
    }

    private static Told tell(List<Felon> felons, List<Integer> names, int atFirst, int goal, int bribe) {
        Told told = new Told();
        int strong = atFirst;
        int wins = 0;
        Ratio alive = Ratio.of(1, 1);
        told.strong.add(strong);
        told.wins.add(wins);
        told.alive.add(alive);
        for (int i = 0; i < names.size(); i++) {
            int who = names.get(i);
            int come;
            int sixteenths = 16;
            if (wins == goal || who >= felons.size() || names.subList(0, i).contains(who)) {
                come = 0;
            } else if (felons.get(who).kind == 'd') {
                come = 4;
            } else if (felons.get(who).kind == 'c' && felons.get(who).guilty) {
                come = 1;
            } else if (felons.get(who).kind == 'r' && felons.get(who).goods >= bribe) {
                come = 2;
            } else {
                come = 3;
            }
            if (come == 1 || come == 2) {
                wins++;
                strong = strong == atFirst ? strong : strong + 1;
            } else if (come == 3) {
                sixteenths = 8 + strong - felons.get(who).strong;
                sixteenths = sixteenths < 0 ? 0 : sixteenths > 16 ? 16 : sixteenths;
                wins++;
                strong = strong == 0 ? 0 : strong - 1;
                alive = alive.times(Ratio.of(sixteenths, 16));
                if (!felons.get(who).guilty) {
                    told.harm = told.harm.plus(alive);
                }
            }
            told.come.add(come);
            told.sixteenths.add(sixteenths);
            told.strong.add(strong);
            told.wins.add(wins);
            told.alive.add(alive);
        }
        if (wins == goal) {
            told.lives = alive;
        }
        return told;
    }

    /** Every row of FELONS, the least first; a better one takes the place of the best so far. */
    private static final class Rows {
        final List<Felon> felons;
        final int atFirst;
        final int goal;
        final int bribe;
        Ratio best = Ratio.of(0, 1);
        List<Integer> row = new ArrayList<>();

        Rows(List<Felon> felons, int atFirst, int goal, int bribe) {
            this.felons = felons;
            this.atFirst = atFirst;
            this.goal = goal;
            this.bribe = bribe;
            look(new ArrayList<>());
        }

        private void look(List<Integer> start) {
            Ratio lives = tell(felons, start, atFirst, goal, bribe).lives;
            if (lives.compareTo(best) > 0) {
                best = lives;
                row = new ArrayList<>(start);
            }
            for (int felon = 0; felon < felons.size(); felon++) {
                if (!start.contains(felon)) {
                    start.add(felon);
                    look(start);
                    start.remove(start.size() - 1);
                }
            }
        }
    }

    private final Random random;
    private final ApproverWins x = new ApproverWins();
    private final List<Felon> felons = new ArrayList<>();
    private final List<Integer> names = new ArrayList<>();
    private final List<int[]> seen = new ArrayList<>();
    private final int seed;
    private int strong;
    private int goal;
    private int bribe;

    private OracleTest(int seed, int mostFelons) {
        this.seed = seed;
        random = new Random(seed);
        StringBuilder text = new StringBuilder();
        int number = random.nextInt(mostFelons + 1);
        boolean isEven = random.nextBoolean();
        for (int i = 0; i < number; i++) {
            Felon felon = new Felon();
            felon.kind = "fcrd".charAt(random.nextInt(4));
            felon.strong = isEven ? 3 + random.nextInt(4) : random.nextInt(10);
            felon.goods = random.nextInt(10);
            felon.guilty = random.nextBoolean();
            felon.fellow = random.nextInt(9) - 1;
            felons.add(felon);
            text.append(i == 0 ? "" : ";").append(felon.kind).append(felon.strong).append(felon.goods);
            text.append(felon.guilty ? 'g' : 'i').append(felon.fellow < 0 ? "." : "" + felon.fellow);
        }
        for (int i = 0; i < text.length(); i++) {
            x.type(0, text.charAt(i));
        }
        int many = random.nextInt(13);
        for (int i = 0; i < many; i++) {
            names.add(random.nextInt(8));
            x.type(1, 'a' + names.get(i));
        }
        strong = random.nextInt(10);
        goal = 1 + random.nextInt(random.nextBoolean() ? 8 : 4);
        bribe = random.nextInt(10);
        x.set(0, strong);
        x.set(1, goal);
        x.set(2, bribe);
    }

    private void due(String call, long got, long want) {
        if (got != want) {
            wrong++;
            System.out.println("seed " + seed + ": " + call + " answered " + got + ", due is " + want);
        }
    }

    private void due(String call, long above, long below, Ratio want) {
        due(call + " above", above, want.above.longValueExact());
        due(call + " below", below, want.below.longValueExact());
    }

    private Told byBribe(int other) {
        return tell(felons, names, strong, goal, other);
    }

    private void checkNames() {
        Told told = byBribe(bribe);
        due("count(0)", x.count(0), felons.size());
        due("count(1)", x.count(1), names.size());
        for (int i = 0; i < names.size(); i++) {
            due("name(" + i + ")", x.name(i), names.get(i));
            due("comes(" + i + ", 0)", x.comes(i, 0), told.come.get(i));
            due("comes(" + i + ", 1)", x.comes(i, 1), told.sixteenths.get(i));
        }
        for (int i = 0; i <= names.size(); i++) {
            due("behind(" + i + ", 0)", x.behind(i, 0), told.strong.get(i));
            due("behind(" + i + ", 1)", x.behind(i, 1), told.wins.get(i));
            due("alive(" + i + ")", x.alive(i, 0), x.alive(i, 1), told.alive.get(i));
        }
        due("lives", x.lives(0), x.lives(1), told.lives);
        due("harm", x.harm(0), x.harm(1), told.harm);
        int worst = -1;
        for (int i = names.size() - 1; i >= 0; i--) {
            worst = worst < 0 || told.sixteenths.get(i) <= told.sixteenths.get(worst) ? i : worst;
        }
        due("worst()", x.worst(), worst);
        int something = 0;
        for (int f = 0; f < felons.size(); f++) {
            due("fate(" + f + ")", x.fate(f), told.fate(f, names));
            something += told.fate(f, names) > 0 ? 1 : 0;
        }
        due("count(4)", x.count(4), told.come.stream().filter(come -> come == 3).count());
        due("count(5)", x.count(5), told.wins.get(names.size()));
        due("count(6)", x.count(6), something);
    }

    private void checkPlans() {
        Rows rows = new Rows(felons, strong, goal, bribe);
        due("best", x.best(0), x.best(1), rows.best);
        due("order(NONE)", x.order(-1), rows.row.isEmpty() ? -1 : rows.row.size());
        for (int i = 0; i < 8; i++) {
            due("order(" + i + ")", x.order(i), i < rows.row.size() ? rows.row.get(i) : -1);
        }
        int price = 0;
        for (int b = 1; b < 10; b++) {
            price = byBribe(b).lives.compareTo(byBribe(price).lives) > 0 ? b : price;
        }
        due("price()", x.price(), price);
        for (int c = 0; c <= 16; c++) {
            int rule = -1;
            for (int wins = 1; wins <= 8; wins++) {
                Ratio lives = tell(felons, names, strong, wins, bribe).lives;
                rule = lives.compareTo(Ratio.of(c, 16)) >= 0 ? wins : rule;
            }
            due("rule(" + c + ")", x.rule(c), rule);
        }
        for (int f = 0; f < felons.size(); f++) {
            due("chain(" + f + ")", x.chain(f), reach(f, 0));
        }
    }

    private int reach(int felon, int reached) {
        if (felon < 0 || felon >= felons.size() || (reached & 1 << felon) != 0) {
            return reached;
        }
        int more = reached | 1 << felon;
        return felons.get(felon).guilty ? reach(felons.get(felon).fellow, more) : more;
    }

    private boolean comesOut(Told told) {
        return seen.stream().allMatch(one -> told.fate(one[0], names) == one[1]);
    }

    private void checkSeen() {
        List<Told> left = new ArrayList<>();
        int bits = 0;
        for (int b = 0; b < 10; b++) {
            if (comesOut(byBribe(b))) {
                bits |= 1 << b;
                left.add(byBribe(b));
            }
        }
        due("bribes()", x.bribes(), bits);
        int ask = -1;
        int least = 99;
        for (int f = 0; f < felons.size(); f++) {
            int[] alike = new int[6];
            for (Told told : left) {
                alike[told.fate(f, names) + 1]++;
            }
            int most = Arrays.stream(alike).max().getAsInt();
            if (most < least) {
                least = most;
                ask = f;
            }
            due("kinds(" + f + ")", x.kinds(f), kindsOf(felons.get(f)));
        }
        due("ask()", x.ask(), ask);
    }

    private int kindsOf(Felon felon) {
        char own = felon.kind;
        int bits = 0;
        for (int kind = 0; kind < 4; kind++) {
            felon.kind = "fcrd".charAt(kind);
            bits |= comesOut(byBribe(bribe)) ? 1 << kind : 0;
        }
        felon.kind = own;
        return bits;
    }

    /** Mostly what would be SEEN by some other BRIBE, so that some BRIBES are left. */
    private void seeMore() {
        int felon = names.isEmpty() ? random.nextInt(8) : names.get(random.nextInt(names.size()));
        int fate = byBribe(random.nextInt(10)).fate(felon, names);
        if (fate < 0 || random.nextInt(10) == 0) {
            fate = random.nextInt(5);
        }
        seen.add(new int[] {felon, fate});
        due("seen(" + felon + ", " + fate + ")", x.seen(felon, fate), seen.size());
    }

    private void checkGaols() {
        Told told = byBribe(bribe);
        int start = random.nextInt();
        int n = 1 + random.nextInt(99);
        long state = start;
        int lives = 0;
        int lost = 0;
        for (int time = 0; time < n; time++) {
            boolean isAlive = true;
            for (int i = 0; i < names.size() && isAlive; i++) {
                if (told.come.get(i) == 3) {
                    state = (state * 1103515245L + 12345L) & 0xffffffffL;
                    isAlive = (state / 65536) % 16 < told.sixteenths.get(i);
                    lost += isAlive && !felons.get(names.get(i)).guilty ? 1 : 0;
                }
            }
            lives += isAlive && told.wins.get(names.size()) == goal ? 1 : 0;
        }
        due("gaols(" + start + ", " + n + ", 0)", x.gaols(start, n, 0), lives);
        due("gaols(" + start + ", " + n + ", 1)", x.gaols(start, n, 1), lost);
    }

    private void check() {
        checkNames();
        checkPlans();
        checkSeen();
        seeMore();
        checkSeen();
        seeMore();
        checkSeen();
        checkGaols();
        checkNames();
    }

    public static void main(String[] args) {
        for (int seed = 0; seed < 1500; seed++) {
            new OracleTest(seed, 5).check();
        }
        // Eight FELONS have 109,601 rows, so only some of these.
        for (int seed = 5000; seed < 5025; seed++) {
            new OracleTest(seed, 8).check();
        }
        System.out.println(wrong == 0 ? "the class and the slow reckoning agree" : wrong + " answers differ");
        if (wrong != 0) {
            System.exit(1);
        }
    }
}
