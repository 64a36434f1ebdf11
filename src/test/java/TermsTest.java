import java.math.BigInteger;

/** The sentences of the document's terms that name a boundary case, each with a test of its own. */
public final class TermsTest {
    private static final Checks checks = new Checks();

    private static void due(String call, long got, long want) {
        checks.due(call, got, want);
    }

    private static ApproverWins of(String felons, String names, int strong, int wins, int bribe) {
        return Checks.of(felons, names, strong, wins, bribe);
    }

    public static void main(String[] args) {
        felonsUpToEight();
        felonBytes();
        nameBytes();
        faultOfTheFirstByte();
        faultOfWhatIsNotEnded();
        faultOfANinth();
        faultIsAsIfEmpty();
        approverAtFirst();
        approverLimits();
        voidBehindTheWins();
        voidNames();
        idleDead();
        settlesFromTheBribeOn();
        confessesIfGuilty();
        strongerAtMostAsAtFirst();
        sixteenthsFromNoneToAll();
        lessStrongNoneAtLeast();
        fractionsInLowestTerms();
        seedsWrap();
        lotsFromNoneOn();
        sheetsAtFirst();
        findings();
        noFightIsSixteen();
        worst();
        fates();
        orders();
        prices();
        rules();
        chains();
        seenAndNever();
        bribesAndKinds();
        asks();
        gaols();
        calls();
        checks.end();
    }

    // ---- texts

    private static void felonsUpToEight() {
        checks.says(0, "FELONS are a text of up to 47 bytes (text 0), 8 at most (0 on), with ; between them");
        ApproverWins x = Checks.of("", "");
        due("count(0) of an empty text", x.count(0), 0);
        due("felon(0, 0) of an empty text", x.felon(0, 0), -2);
        for (int felon = 0; felon < 8; felon++) {
            String all = "f00g.;f11g.;f22g.;f33g.;f44g.;f55g.;f66g.;f77g.".substring(0, 6 * felon + 5);
            Checks.put(x, 0, all);
            due("count(0) of " + all, x.count(0), felon + 1);
            due("the last's felon(.., 1) of " + all, x.felon(felon, 1), felon);
            due("one more's felon(.., 1) of " + all, x.felon(felon + 1, 1), -2);
        }
        due("count(2) of 8 FELONS", x.count(2), 47);
        due("type(0, ';') as byte 48", x.type(0, ';'), -4);
        String[] wrong = {";f00g.", "f00g.;", "f00g.;;f00g.", "f00g.f00g.", "f00g. f00g.", ";"};
        int[] faults = {0, 6, 6, 5, 5, 0};
        for (int i = 0; i < wrong.length; i++) {
            Checks.put(x, 0, wrong[i]);
            due("fault(0) of " + wrong[i], x.fault(0), faults[i]);
        }
    }

    private static void felonBytes() {
        checks.says(0, "f (fights), c (confesses), r (rich) or d (dead), a figure, how STRONG (0 to 9), a figure, its "
            + "GOODS (0 to 9), g (GUILTY) or i (innocent), and a figure 0 to 7 or ., the FELLOW that it would name (none)");
        String[] allowed = {"fcrd", "0123456789", "0123456789", "gi", "01234567.", ";"};
        int[][] parts = {{0, 1, 2, 3}, null, null, {1, 0}, {0, 1, 2, 3, 4, 5, 6, 7, -1}, null};
        for (int place = 0; place < 47; place++) {
            for (int b = 0; b < 256; b++) {
                ApproverWins x = Checks.of(Checks.EIGHT.substring(0, place), "");
                x.type(0, b);
                for (int i = place + 1; i < 47; i++) {
                    x.type(0, Checks.EIGHT.charAt(i));
                }
                int which = allowed[place % 6].indexOf(b);
                String told = "byte " + b + " at " + place;
                due("fault(0) with " + told, x.fault(0), which < 0 ? place : -1);
                due("count(0) with " + told, x.count(0), which < 0 ? 0 : 8);
                if (which >= 0 && place % 6 < 5) {
                    int want = parts[place % 6] == null ? which : parts[place % 6][which];
                    due("felon's part with " + told, x.felon(place / 6, place % 6), want);
                }
            }
        }
    }

    private static void nameBytes() {
        checks.says(0, "THE NAMES are a text of up to 12 letters a to h (text 1), FELONS 0 to 7, one behind the other (0 on)");
        for (int place = 0; place < 12; place++) {
            for (int b = 0; b < 256; b++) {
                ApproverWins x = Checks.of("", "abcdefghhgfe".substring(0, place));
                x.type(1, b);
                boolean isLetter = b >= 97 && b <= 104;
                String told = "byte " + b + " at " + place;
                due("fault(1) with " + told, x.fault(1), isLetter ? -1 : place);
                due("count(1) with " + told, x.count(1), isLetter ? place + 1 : 0);
                due("the last's name with " + told, x.name(place), isLetter ? b - 97 : -1);
            }
        }
        ApproverWins x = Checks.of("", "abcdefghhgfe");
        due("type(1, 'a') as byte 13", x.type(1, 'a'), -4);
        due("count(1), full", x.count(1), 12);
        due("name(11), full", x.name(11), 4);
    }

    private static void faultOfTheFirstByte() {
        checks.says(0, "The FAULT of a text is the place of the first byte with which it cannot go on");
        ApproverWins x = Checks.of("f0xxx", "a?b?");
        due("fault(0), of two wrong bytes the first", x.fault(0), 2);
        due("fault(1), of two wrong bytes the first", x.fault(1), 1);
        Checks.put(x, 0, "x00g.;");
        due("fault(0), a wrong byte ahead of an end that is wrong too", x.fault(0), 0);
        x.undo(1);
        x.undo(1);
        due("fault(1) without the second", x.fault(1), 1);
        x.undo(1);
        due("fault(1) without the first", x.fault(1), -1);
    }

    private static void faultOfWhatIsNotEnded() {
        checks.says(0, "(an empty one is well; of one that is not ended, its end)");
        ApproverWins x = Checks.of("", "");
        due("fault(0), empty", x.fault(0), -1);
        due("fault(1), empty", x.fault(1), -1);
        for (int length = 1; length <= 47; length++) {
            x.type(0, Checks.EIGHT.charAt(length - 1));
            boolean isEnded = length % 6 == 5;
            due("fault(0) of " + length + " bytes", x.fault(0), isEnded ? -1 : length);
            due("count(0) of " + length + " bytes", x.count(0), isEnded ? (length + 1) / 6 : 0);
        }
    }

    private static void faultOfANinth() {
        checks.says(0, "here also of the first byte of a ninth");
        ApproverWins x = Checks.of(Checks.EIGHT, "");
        due("fault(0) of 8 FELONS", x.fault(0), -1);
        due("type(0, ';') ahead of a ninth", x.type(0, ';'), -4);
        due("type(0, 'f') of a ninth", x.type(0, 'f'), -4);
        due("fault(0) behind these", x.fault(0), -1);
        due("count(0) behind these", x.count(0), 8);
    }

    private static void faultIsAsIfEmpty() {
        checks.says(0, "With a FAULT a text is as if it was empty.");
        String felons = "r45i1;c00g2;f30g.;f11i0";
        String[] wrongFelons = {felons + ";", felons + "x", felons.substring(0, 22), "x" + felons, felons + ";f00g"};
        for (String wrong : wrongFelons) {
            ApproverWins x = Checks.of(wrong, "dcba");
            x.seen(0, 0);
            ApproverWins empty = Checks.of("", "dcba");
            empty.seen(0, 0);
            checks.due("all that is told with FELONS " + wrong, Asking.all(x), Asking.all(empty));
        }
        for (String wrong : new String[] {"dcbai", "idcba", "dc;ba", "dcba "}) {
            ApproverWins x = Checks.of(felons, wrong);
            ApproverWins empty = Checks.of(felons, "");
            checks.due("all that is told with NAMES " + wrong, Asking.all(x), Asking.all(empty));
        }
    }

    // ---- the approver

    private static void approverAtFirst() {
        checks.says(0, "how STRONG he is (0 to 9; 5 at first), how many WINS he must have (1 to 8; 5 at first), "
            + "the BRIBE (0 to 9; 5 at first)");
        ApproverWins x = Checks.of("c00g.;c00g.;c00g.;c00g.;c00g.;r95i.;r94i.", "abcde");
        due("behind(0, 0) at first", x.behind(0, 0), 5);
        due("lives(0) by 5 confessions", x.lives(0), 1);
        x.undo(1);
        due("lives(0) by 4 confessions", x.lives(0), 0);
        Checks.put(x, 1, "fg");
        due("comes(0, 0), GOODS 5", x.comes(0, 0), 2);
        due("comes(1, 0), GOODS 4", x.comes(1, 0), 3);
        for (int what = 0; what < 3; what++) {
            due("set(" + what + ", 6) of a new one", new ApproverWins().set(what, 6), 5);
        }
    }

    private static void approverLimits() {
        checks.says(0, "(0 to 9; 5 at first), how many WINS he must have (1 to 8; 5 at first)");
        int[] least = {0, 1, 0};
        int[] greatest = {9, 8, 9};
        for (int what = 0; what < 3; what++) {
            ApproverWins x = new ApproverWins();
            int was = 5;
            for (int v = -3; v <= 12; v++) {
                boolean isAllowed = v >= least[what] && v <= greatest[what];
                due("set(" + what + ", " + v + ")", x.set(what, v), isAllowed ? was : -2);
                was = isAllowed ? v : was;
                due("behind(0, 0) then", x.behind(0, 0), what == 0 ? was : 5);
            }
        }
    }

    private static void voidBehindTheWins() {
        checks.says(0, "till he has his WINS (what comes behind that is VOID)");
        for (int wins = 1; wins <= 8; wins++) {
            for (String felons : new String[] {Checks.EIGHT, Checks.EIGHT_CONFESS, Checks.EIGHT.replace("f00", "r09")}) {
                ApproverWins x = of(felons, "abcdefgh", 5, wins, 5);
                for (int i = 0; i < 8; i++) {
                    due("by " + wins + " WINS of " + felons.charAt(0) + ": is " + i + " VOID",
                        x.comes(i, 0) == 0 ? 1 : 0, i < wins ? 0 : 1);
                }
                due("behind(8, 1) by " + wins + " WINS", x.behind(8, 1), wins);
            }
        }
        ApproverWins x = of("d00g.;c00g.", "ba", 5, 1, 5);
        due("comes(1, 0), a dead one behind the WINS", x.comes(1, 0), 0);
    }

    private static void voidNames() {
        checks.says(0, "A NAME is VOID, too, if there is no such FELON, or it was named ahead of that");
        for (int felons = 0; felons <= 8; felons++) {
            ApproverWins x = of(felons == 0 ? "" : Checks.EIGHT.substring(0, 6 * felons - 1), "hgfedcba", 5, 8, 5);
            for (int felon = 0; felon < 8; felon++) {
                due("of " + felons + " FELONS: comes of " + felon, x.comes(7 - felon, 0), felon < felons ? 3 : 0);
            }
        }
        ApproverWins x = of("f00g.;c00g.;r09g.;d00g.", "aabbccddeea", 5, 8, 5);
        int[] wanted = {3, 0, 1, 0, 2, 0, 4, 0, 0, 0, 0};
        for (int i = 0; i < wanted.length; i++) {
            due("comes(" + i + ", 0), each named twice", x.comes(i, 0), wanted[i]);
        }
        due("behind(11, 1), each named twice", x.behind(11, 1), 3);
    }

    private static void idleDead() {
        checks.says(0, "a dead one is IDLE: nothing comes of it");
        for (String dead : new String[] {"d00g.", "d99g.", "d09i.", "d90i."}) {
            ApproverWins x = of(dead + ";f50i.", "bab", 5, 3, 0);
            due("comes of " + dead, x.comes(1, 0), 4);
            due("sixteenths of " + dead, x.comes(1, 1), 16);
            due("how STRONG behind " + dead, x.behind(2, 0), 4);
            due("WINS behind " + dead, x.behind(2, 1), 1);
            checks.fraction("alive behind " + dead, x.alive(2, 0), x.alive(2, 1), 1, 2);
            checks.fraction("harm with " + dead, x.harm(0), x.harm(1), 1, 2);
        }
    }

    private static void settlesFromTheBribeOn() {
        checks.says(0, "who is rich, if its GOODS are no less than the BRIBE, SETTLES");
        for (int goods = 0; goods <= 9; goods++) {
            ApproverWins x = Checks.of("r0" + goods + "i.;f0" + goods + "g.;c0" + goods + "i.", "abc");
            for (int bribe = 0; bribe <= 9; bribe++) {
                x.set(2, bribe);
                due("GOODS " + goods + ", BRIBE " + bribe, x.comes(0, 0), goods >= bribe ? 2 : 3);
                due("one that is not rich: GOODS " + goods + ", BRIBE " + bribe, x.comes(1, 0), 3);
                due("one that would confess: GOODS " + goods + ", BRIBE " + bribe, x.comes(2, 0), 3);
            }
        }
    }

    private static void confessesIfGuilty() {
        checks.says(0, "Who confesses, if it is GUILTY, CONFESSES");
        ApproverWins x = Checks.of("c99g.;c99i.;f99g.;r94g.", "abcd");
        int[] wanted = {1, 3, 3, 3};
        for (int i = 0; i < wanted.length; i++) {
            due("comes(" + i + ", 0)", x.comes(i, 0), wanted[i]);
        }
    }

    private static void strongerAtMostAsAtFirst() {
        checks.says(0, "each is one more of his WINS, and he is 1 STRONGER (at most as at first)");
        for (int strong = 0; strong <= 9; strong++) {
            ApproverWins x = of("c00g.;r09g.;f00g.;c00g.;r09i.", "abcde", strong, 8, 5);
            int weaker = Math.max(0, strong - 1);
            int[] wanted = {strong, strong, strong, weaker, strong, strong};
            for (int i = 0; i <= 5; i++) {
                due("strong " + strong + ": behind(" + i + ", 0)", x.behind(i, 0), wanted[i]);
                due("strong " + strong + ": behind(" + i + ", 1)", x.behind(i, 1), i);
            }
        }
        ApproverWins x = of("f00g.;f00g.;f00g.;c00g.;r09g.", "abcde", 9, 8, 5);
        due("behind(4, 0), 1 STRONGER and no more", x.behind(4, 0), 7);
        due("behind(5, 0), 1 STRONGER and no more", x.behind(5, 0), 8);
    }

    private static void sixteenthsFromNoneToAll() {
        checks.says(0, "he wins by 8 sixteenths, as many more as he is STRONGER, or less as he is weaker (0 to 16 of these)");
        for (int foe = 0; foe <= 9; foe++) {
            ApproverWins x = Checks.of("f" + foe + "0g.", "a");
            for (int strong = 0; strong <= 9; strong++) {
                x.set(0, strong);
                int told = 8 + strong - foe;
                int wanted = told == 17 ? 16 : told == -1 ? 0 : told;
                due("strong " + strong + " against " + foe, x.comes(0, 1), wanted);
            }
        }
        ApproverWins x = of("f00i.", "a", 9, 1, 5);
        checks.fraction("lives, 17 sixteenths are 16", x.lives(0), x.lives(1), 1, 1);
        x = of("f90i.", "a", 0, 1, 5);
        checks.fraction("lives, less than 0 sixteenths are 0", x.lives(0), x.lives(1), 0, 1);
    }

    private static void lessStrongNoneAtLeast() {
        checks.says(0, "then it is one more of his WINS, and he is 1 less STRONG (0 at least)");
        for (int strong = 0; strong <= 9; strong++) {
            ApproverWins x = of(Checks.EIGHT, "abcdefgh", strong, 8, 5);
            for (int i = 0; i <= 8; i++) {
                due("strong " + strong + ": behind(" + i + ", 0)", x.behind(i, 0), Math.max(0, strong - i));
                due("strong " + strong + ": behind(" + i + ", 1)", x.behind(i, 1), i);
            }
        }
        ApproverWins x = of("f80g.;f80g.;c00g.", "abc", 0, 8, 5);
        due("comes(1, 1), not below what 0 has", x.comes(1, 1), 0);
        x = of("f70g.;f70g.", "ab", 0, 8, 5);
        due("comes(1, 1), not below what 0 has", x.comes(1, 1), 1);
    }

    // ---- fractions, lots

    private static void fractionsInLowestTerms() {
        checks.says(0, "FRACTIONS are told in lowest terms, above and below (0 by 1).");
        for (int strong = 0; strong <= 9; strong++) {
            ApproverWins x = of("f90g.;f50i.;f10i.;f00i.", "abcd", strong, 4, 5);
            for (int names = 0; names <= 4; names++) {
                isLowest("alive(" + names + ") of " + strong, x.alive(names, 0), x.alive(names, 1));
            }
            isLowest("lives of " + strong, x.lives(0), x.lives(1));
            isLowest("harm of " + strong, x.harm(0), x.harm(1));
            isLowest("best of " + strong, x.best(0), x.best(1));
        }
        ApproverWins x = of("f90i.", "a", 0, 1, 5);
        checks.fraction("alive(1) of 0", x.alive(1, 0), x.alive(1, 1), 0, 1);
        checks.fraction("lives of 0", x.lives(0), x.lives(1), 0, 1);
        checks.fraction("harm of 0", x.harm(0), x.harm(1), 0, 1);
        checks.fraction("best of 0", x.best(0), x.best(1), 0, 1);
        x = of(Checks.EIGHT.replace("f00", "f70"), "abcdefgh", 0, 8, 5);
        checks.fraction("the greatest below: 1 sixteenth, eight times", x.lives(0), x.lives(1), 1, 1L << 32);
        checks.fraction("best of it", x.best(0), x.best(1), 1, 1L << 32);
        x = of(Checks.EIGHT.replace('g', 'i'), "abcdefgh", 9, 1, 5);
        checks.fraction("the greatest chance", x.lives(0), x.lives(1), 1, 1);
    }

    private static void isLowest(String told, long above, long below) {
        BigInteger common = BigInteger.valueOf(above).gcd(BigInteger.valueOf(below));
        due("common of " + told, common.longValueExact(), 1);
        due("below 1 of " + told, below < 1 ? 1 : 0, 0);
    }

    /** LOTS by numbers that do not wrap by themselves. */
    private static final class Lots {
        private static final BigInteger WHOLE = BigInteger.ONE.shiftLeft(32);
        private BigInteger seed;

        Lots(int seed) {
            this.seed = BigInteger.valueOf(seed).mod(WHOLE);
        }

        int draw() {
            seed = seed.multiply(BigInteger.valueOf(1103515245)).add(BigInteger.valueOf(12345)).mod(WHOLE);
            return seed.shiftRight(16).mod(BigInteger.valueOf(16)).intValueExact();
        }
    }

    private static int wonOf(int seed, int n, int sixteenths) {
        Lots lots = new Lots(seed);
        int won = 0;
        for (int time = 0; time < n; time++) {
            won += lots.draw() < sixteenths ? 1 : 0;
        }
        return won;
    }

    private static final int[] SEEDS = {
        0, 1, 2, 7, -1, -2, -7, Checks.LOW, Checks.LOW + 1, Checks.HIGH, Checks.HIGH - 1, 1 << 30, -(1 << 30), 65535, 65536, -65536,
    };

    private static void seedsWrap() {
        checks.says(0, "SEED becomes 1103515245 SEED and 12345, as ints that wrap");
        ApproverWins x = of("f50i.", "a", 5, 1, 5);
        for (int seed : SEEDS) {
            for (int n : new int[] {1, 2, 3, 98, 99}) {
                due("gaols(" + seed + ", " + n + ", 0)", x.gaols(seed, n, 0), wonOf(seed, n, 8));
            }
        }
    }

    private static void lotsFromNoneOn() {
        checks.says(0, "its upper 16 bits as a number from 0 on, modulo m");
        for (int strong = 0; strong <= 9; strong++) {
            ApproverWins x = of("f80i.", "a", strong, 1, 5);
            ApproverWins y = of("f00i.", "a", strong, 1, 5);
            for (int seed : SEEDS) {
                due("gaols(" + seed + ", 99, 0) by " + strong, x.gaols(seed, 99, 0), wonOf(seed, 99, strong));
                int sixteenths = Math.min(16, 8 + strong);
                due("gaols(" + seed + ", 99, 1) by " + sixteenths, y.gaols(seed, 99, 1), wonOf(seed, 99, sixteenths));
            }
        }
    }

    // ---- sheets

    private static void sheetsAtFirst() {
        checks.says(0, "SHEETS 0 .. 3 are LOST (at first) or a row of a FORM: 0 bytes, 1 shorts, 2 ints, of 0 to 60 items (0 at first).");
        for (int s = 0; s < 4; s++) {
            for (int form = 0; form < 3; form++) {
                ApproverWins x = new ApproverWins();
                due("lose(" + s + ") at first", x.lose(s), Checks.NULL);
                due("sheet of 0 items", x.sheet(s, form, 0), 0);
                due("lay, 0 items", x.lay(s, form, 0, 1), Checks.INDEX);
                due("sheet of 61 items", x.sheet(s, form, 61), -2);
                due("lose, 0 items", x.lose(s), 0);
                due("sheet of 60 items", x.sheet(s, form, 60), 60);
                for (int i = 0; i < 60; i++) {
                    due("item " + i + " at first", x.get(s, form, i), 0);
                    due("lay item " + i, x.lay(s, form, i, i + 1), 1);
                }
                due("lay item 60", x.lay(s, form, 60, 1), Checks.INDEX);
                for (int i = 0; i < 60; i++) {
                    due("item " + i, x.get(s, form, i), i + 1);
                }
                x.sheet(s, form, 60);
                due("first item of a new row", x.get(s, form, 0), 0);
                due("last item of a new row", x.get(s, form, 59), 0);
                x.lay(s, form, 59, 9);
                x.lose(s);
                x.sheet(s, form, 60);
                due("last item of a new row behind a LOST one", x.get(s, form, 59), 0);
            }
        }
    }

    private static void findings() {
        checks.says(0, "FINDINGS (answers -10 less the number; they change nothing but count() 8): 1 NULL: the SHEET is LOST; "
            + "2 INDEX: there is no such item; 3 CAST: it has another FORM; 4 STORE: unlike FORMS; 5 SIZE: below 0.");
        ApproverWins x = new ApproverWins();
        due("count(8) before any", x.count(8), 0);
        due("lay, NULL", x.lay(0, 0, 0, 1), -11);
        due("count(8) of NULL", x.count(8), 1);
        x.sheet(0, 0, 1);
        x.sheet(1, 2, 1);
        due("count(8) stays", x.count(8), 1);
        due("lay, INDEX", x.lay(0, 0, 1, 1), -12);
        due("count(8) of INDEX", x.count(8), 2);
        due("lay, CAST", x.lay(0, 1, 0, 1), -13);
        due("count(8) of CAST", x.count(8), 3);
        due("copy, STORE", x.copy(0, 0, 1, 0, 1), -14);
        due("count(8) of STORE", x.count(8), 4);
        due("sheet, SIZE", x.sheet(0, 0, -1), -15);
        due("count(8) of SIZE", x.count(8), 5);
        due("get(0, 0, 0), as it was", x.get(0, 0, 0), 0);
        due("get(1, 2, 0), as it was", x.get(1, 2, 0), 0);
        due("count(8), the latest", x.count(8), 5);
    }

    // ---- names

    private static void noFightIsSixteen() {
        checks.says(0, "by how many sixteenths he wins (16: no FIGHT)");
        ApproverWins x = of("c90g.;r99g.;d90g.;f90g.;f90g.", "abchaadde", 0, 3, 5);
        int[] wanted = {16, 16, 16, 16, 16, 16, 0, 16, 16};
        for (int i = 0; i < wanted.length; i++) {
            due("comes(" + i + ", 1)", x.comes(i, 1), wanted[i]);
        }
    }

    private static void worst() {
        checks.says(0, "WORST: the NAME with the fewest sixteenths, of like ones the first; NONE: there are no NAMES.");
        due("worst(), no NAMES, no FELONS", Checks.of("", "").worst(), -1);
        due("worst(), no NAMES", Checks.of(Checks.EIGHT, "").worst(), -1);
        due("worst(), NAMES with a FAULT", Checks.of(Checks.EIGHT, "ab?").worst(), -1);
        due("worst(), no FELONS: all are VOID", Checks.of("", "hgfedcbahgfe").worst(), 0);
        due("worst(), the last of 12", of("f90g.;c00g.", "bhhhhhhhhhha", 5, 8, 5).worst(), 11);
        due("worst(), of like ones the first", of("f50g.;f40g.", "hab", 5, 8, 5).worst(), 1);
        // Against 4 and 3 he has 9 sixteenths each, since he is weaker behind the first.
        due("worst(), of like FIGHTS the first", of("f40g.;f30g.", "ab", 5, 8, 5).worst(), 0);
        due("worst(), 0 sixteenths twice", of("f90g.;f90g.", "ab", 0, 8, 5).worst(), 0);
    }

    private static void fates() {
        checks.says(0, "FATE of a FELON: what came of the first NAME that is it; NONE: it is not named.");
        ApproverWins x = of("f00g.;c00g.;r09g.;d00g.;c00g.;c00g.", "abcdaabcde", 5, 3, 5);
        int[] wanted = {3, 1, 2, 0, 0, -1};
        for (int felon = 0; felon < wanted.length; felon++) {
            due("fate(" + felon + ")", x.fate(felon), wanted[felon]);
        }
        x.wipe(1);
        due("fate(0), no NAMES", x.fate(0), -1);
        due("fate(0), no FELONS", Checks.of("", "a").fate(0), -2);
    }

    // ---- plans

    private static String orderOf(ApproverWins x) {
        StringBuilder row = new StringBuilder().append(x.order(-1)).append(':');
        for (int i = 0; i < 8; i++) {
            row.append(' ').append(x.order(i));
        }
        return row.toString();
    }

    private static void orders() {
        checks.says(0, "of like ones the least row (a row is less than one that goes on behind it)");
        checks.due("ORDER, not longer than it must be", orderOf(of(Checks.EIGHT_CONFESS, "", 5, 3, 5)), "3: 0 1 2 -1 -1 -1 -1 -1");
        checks.due("ORDER of all 8", orderOf(of(Checks.EIGHT_CONFESS, "", 5, 8, 5)), "8: 0 1 2 3 4 5 6 7");
        checks.due("ORDER with a dead one that makes it less", orderOf(of("d00g.;c00g.", "", 5, 1, 5)), "2: 0 1 -1 -1 -1 -1 -1 -1");
        checks.due("ORDER with a dead one behind", orderOf(of("c00g.;d00g.", "", 5, 1, 5)), "1: 0 -1 -1 -1 -1 -1 -1 -1");
        checks.due("ORDER of sure FIGHTS", orderOf(of("f10g.;f00g.", "", 9, 1, 5)), "1: 0 -1 -1 -1 -1 -1 -1 -1");
        checks.due("ORDER does not look at THE NAMES", orderOf(of("c00g.;c00g.", "ba", 5, 1, 5)), "1: 0 -1 -1 -1 -1 -1 -1 -1");
        // Behind the first he is weaker, and a confession makes that good: 11 and 11 sixteenths.
        checks.due("ORDER with a confession between", orderOf(of("f40g.;f40g.;c60g.", "", 7, 3, 5)), "3: 0 2 1 -1 -1 -1 -1 -1");
        // 5 and 7 sixteenths are more than 8 and 4; the dead one takes none of his strength.
        checks.due("ORDER with a dead one ahead", orderOf(of("f20g.;d10g.;f50g.", "", 2, 2, 5)), "3: 1 2 0 -1 -1 -1 -1 -1");
        checks.says(0, "(as told: his WINS are all there behind the last of these)");
        ApproverWins late = of("d00g.;d00g.;f00g.", "", 9, 1, 5);
        checks.due("ORDER ends with the last of his WINS", orderOf(late), "3: 0 1 2 -1 -1 -1 -1 -1");
        checks.fraction("best: he LIVES by the last of them", late.best(0), late.best(1), 1, 1);
        checks.says(0, "NONE: there is none, or the chance is 0.");
        String none = "-1: -1 -1 -1 -1 -1 -1 -1 -1";
        checks.due("ORDER, no FELONS", orderOf(of("", "a", 5, 1, 5)), none);
        checks.due("ORDER, FELONS with a FAULT", orderOf(of("c00g.;", "a", 5, 1, 5)), none);
        checks.due("ORDER, all dead", orderOf(of("d00g.;d00g.", "ab", 5, 1, 5)), none);
        checks.due("ORDER, one WIN too many", orderOf(of("c00g.;c00g.", "ab", 5, 3, 5)), none);
        checks.due("ORDER, the chance is 0", orderOf(of("c00g.;f90g.", "ab", 0, 2, 5)), none);
        checks.due("ORDER, the chance is 1 sixteenth", orderOf(of("c00g.;f80g.", "", 1, 2, 5)), "2: 0 1 -1 -1 -1 -1 -1 -1");
        checks.says(0, "the row of FELONS that there are (each once at most)");
        checks.due("ORDER, one FELON may not do for two", orderOf(of("c00g.", "aa", 5, 2, 5)), none);
    }

    private static void prices() {
        checks.says(0, "PRICE: the BRIBE (0 to 9) by which he LIVES likeliest by THE NAMES, of like ones the least.");
        due("price(), no NAMES", of("r99g.", "", 5, 1, 9).price(), 0);
        due("price(), no FELONS", of("", "a", 5, 1, 9).price(), 0);
        due("price(), the least is the only one", of("r90g.", "a", 5, 1, 9).price(), 0);
        due("price(), all are alike", of("r99g.", "a", 5, 1, 9).price(), 0);
        due("price(), he LIVES by none", of("r99g.", "a", 5, 2, 9).price(), 0);
        due("price(), none is rich", of("f50g.", "a", 5, 1, 9).price(), 0);
    }

    private static void rules() {
        checks.says(0, "RULE: the greatest number of WINS (1 to 8) by which he LIVES by c sixteenths (0 to 16) or more; NONE.");
        for (int strong = 0; strong <= 9; strong++) {
            ApproverWins x = of("f80g.", "a", strong, 5, 5);
            for (int c = 1; c <= 16; c++) {
                due("rule(" + c + ") by " + strong + " sixteenths", x.rule(c), c <= strong ? 1 : -1);
            }
            due("rule(0)", x.rule(0), 8);
        }
        for (int names = 0; names <= 8; names++) {
            ApproverWins x = of(Checks.EIGHT_CONFESS, "abcdefgh".substring(0, names), 5, 1, 5);
            due("rule(16) of " + names + " confessions", x.rule(16), names == 0 ? -1 : names);
        }
        due("rule(0), no NAMES", Checks.of("", "").rule(0), 8);
        due("rule(1), no NAMES", Checks.of("", "").rule(1), -1);
        // 4 by 16 and 3 by 16 is less than 1 sixteenth, so the second of the WINS is too many.
        due("rule(1), a little less than 1 sixteenth", of("f90g.;f90g.", "ab", 5, 1, 5).rule(1), 1);
        // 4 by 16 and 4 by 16 is 1 sixteenth.
        due("rule(1), just 1 sixteenth", of("f90g.;f80g.", "ab", 5, 1, 5).rule(1), 2);
    }

    private static void chains() {
        checks.says(0, "CHAIN of a FELON: it, and all that are named by FELLOWS one behind the other, "
            + "if each that is GUILTY names its FELLOW (that there is), as bits.");
        due("chain(0), no FELLOW", Checks.of("f00g.", "").chain(0), 1);
        due("chain(0), itself", Checks.of("f00g0", "").chain(0), 1);
        due("chain(0), a FELLOW that is not there", Checks.of("f00g1", "").chain(0), 1);
        due("chain(0), the last FELLOW not there", Checks.of("f00g7;f00g.", "").chain(0), 1);
        due("chain(0), innocent", Checks.of("f00i1;f00g.", "").chain(0), 1);
        due("chain(0), to an innocent and no further", Checks.of("f00g1;f00i2;f00g.", "").chain(0), 3);
        String ring = "f00g1;c00g2;r00g3;d00g4;f00g5;c00g6;r00g7;d00g0";
        String row = ring.substring(0, 46) + ".";
        for (int felon = 0; felon < 8; felon++) {
            due("chain(" + felon + ") of a ring", Checks.of(ring, "").chain(felon), 255);
            due("chain(" + felon + ") of a row", Checks.of(row, "").chain(felon), 255 & -1 << felon);
        }
        due("chain(0) with a FAULT", Checks.of("f00g0;", "").chain(0), -2);
    }

    // ---- seen

    private static void seenAndNever() {
        checks.says(0, "SEEN, 8 at most: a FELON (0 to 7) had such a FATE (0 to 4, as of FATE; one that is not named: never).");
        ApproverWins x = of("c00g.;r09g.;f00g.;d00g.;f00g.", "abcdh", 5, 8, 5);
        int[] fates = {1, 2, 3, 4, -1, -1, -1, 0};
        for (int felon = 0; felon < 8; felon++) {
            for (int fate = 0; fate <= 4; fate++) {
                x.forget();
                due("seen(" + felon + ", " + fate + ")", x.seen(felon, fate), 1);
                due("bribes() then", x.bribes(), fates[felon] == fate ? 1023 : 0);
            }
        }
        x.forget();
        for (int i = 1; i <= 8; i++) {
            due("seen(7, 0) as " + i, x.seen(7, 0), i);
        }
        due("seen(7, 0) as 9", x.seen(7, 0), -4);
        due("bribes() of 8 alike", x.bribes(), 1023);
        due("forget()", x.forget(), 8);
        due("seen(7, 0) behind forget", x.seen(7, 0), 1);
        x.forget();
        for (int i = 1; i <= 7; i++) {
            x.seen(7, 0);
        }
        due("the eighth counts too", x.seen(0, 4), 8);
        due("bribes() by the eighth", x.bribes(), 0);
    }

    private static void bribesAndKinds() {
        checks.says(0, "BRIBES: BRIBES (0 to 9) in place of its own by which all that was SEEN comes out so, as bits.");
        for (int goods = 0; goods <= 9; goods++) {
            ApproverWins x = Checks.of("r0" + goods + "g.", "a");
            due("bribes(), nothing SEEN", x.bribes(), 1023);
            x.seen(0, 2);
            int settles = (1 << goods + 1) - 1;
            due("bribes(), GOODS " + goods + " SETTLES", x.bribes(), settles);
            x.forget();
            x.seen(0, 3);
            due("bribes(), GOODS " + goods + " FIGHTS", x.bribes(), 1023 - settles);
            x.seen(0, 2);
            due("bribes(), both", x.bribes(), 0);
        }
        checks.says(0, "KINDS of a FELON (0 f, 1 c, 2 r, 3 d) likewise, as bits.");
        int[] wanted = {0, 2, 4, 1, 8};
        for (int fate = 0; fate <= 4; fate++) {
            ApproverWins x = Checks.of("d05g.", "a");
            due("kinds(0), nothing SEEN", x.kinds(0), 15);
            x.seen(0, fate);
            due("kinds(0) by FATE " + fate, x.kinds(0), wanted[fate]);
        }
        ApproverWins x = Checks.of("d04i.;f00g.", "a");
        x.seen(0, 3);
        due("kinds(0), innocent, not so rich", x.kinds(0), 7);
        due("kinds(1), another is dead", x.kinds(1), 0);
        x.forget();
        x.seen(1, 0);
        due("kinds(1), not named: never", x.kinds(1), 0);
    }

    private static void asks() {
        checks.says(0, "ASK: the FELON of which the greatest number of those BRIBES by which its FATE (NONE, too) is alike is "
            + "least, of like ones the least; NONE: there are none.");
        due("ask(), no FELONS", Checks.of("", "abc").ask(), -1);
        due("ask(), FELONS with a FAULT", Checks.of("r05g.;", "a").ask(), -1);
        due("ask(), none named", Checks.of("r05g.;r04g.", "").ask(), 0);
        due("ask(), one that is not named is alike by all", Checks.of("r05g.;r05g.", "b").ask(), 1);
        due("ask(), a dead one is alike by all", Checks.of("d00g.;r05g.", "ab").ask(), 1);
        due("ask(), a VOID one is alike by all", of("c00g.;r05g.;r05g.", "abc", 5, 1, 5).ask(), 0);
        due("ask(), of like ones the least", Checks.of("f00g.;r05g.;r05g.", "abc").ask(), 1);
        due("ask(), 6 and 4 is like 4 and 6", Checks.of("f00g.;r03g.;r05g.", "abc").ask(), 1);
        due("ask(), the last of 8", Checks.of(Checks.EIGHT.substring(0, 42) + "r04g.", "abcdefgh").ask(), 0);
        ApproverWins x = of(Checks.EIGHT.substring(0, 42) + "r04g.", "abcdefgh", 5, 8, 5);
        due("ask(), the last of 8, by enough WINS", x.ask(), 7);
        x.seen(0, 0);
        due("ask(), no BRIBES are left", x.ask(), 0);
    }

    private static void gaols() {
        checks.says(0, "GAOLS by a SEED: n times (1 to 99) THE NAMES; at each FIGHT a LOT of 16: he wins, if that is less than his sixteenths");
        ApproverWins never = of("f90i.;f00i.", "ab", 0, 2, 5);
        ApproverWins always = of("f00i.;c00g.;f00i.", "abc", 9, 3, 5);
        for (int n = -1; n <= 101; n++) {
            boolean isAllowed = n >= 1 && n <= 99;
            due("gaols(7, " + n + ", 0), 0 sixteenths", never.gaols(7, n, 0), isAllowed ? 0 : -2);
            due("gaols(7, " + n + ", 1), 0 sixteenths", never.gaols(7, n, 1), isAllowed ? 0 : -2);
            due("gaols(7, " + n + ", 0), 16 sixteenths", always.gaols(7, n, 0), isAllowed ? n : -2);
        }
        due("gaols(7, 99, 1), 16 sixteenths", always.gaols(7, 99, 1), 2 * 99);
        due("gaols, no NAMES", Checks.of("", "").gaols(7, 99, 0), 0);
        due("gaols, no NAMES: innocents", Checks.of("", "").gaols(7, 99, 1), 0);
        // The first LOT of each of these seeds is told by hand: he wins by one more than it, not by it.
        for (int seed = 0; seed < 40; seed++) {
            int lot = new Lots(seed).draw();
            for (int sixteenths = 4; sixteenths <= 13; sixteenths++) {
                ApproverWins x = of("f50i.", "a", 0, 1, 5);
                Checks.put(x, 0, "f" + (sixteenths < 8 ? 8 - sixteenths : 0) + "0i.");
                x.set(0, sixteenths < 8 ? 0 : sixteenths - 8);
                due("sixteenths", x.comes(0, 1), sixteenths);
                due("gaols(" + seed + ", 1, 0) by " + sixteenths, x.gaols(seed, 1, 0), lot < sixteenths ? 1 : 0);
            }
        }
    }

    // ---- calls

    private static void calls() {
        checks.says(0, "An object is used for at most 512 calls after it has been made");
        ApproverWins x = Checks.of("c00g.;r09i.;f50i.", "abc");
        ApproverWins fresh = Checks.of("c00g.;r09i.;f50i.", "abc");
        // Two wipes, 17 and 3 bytes so far.
        for (int call = 23; call <= 511; call++) {
            x.digest();
        }
        due("the 512th call", x.digest(), fresh.digest());
    }
}
