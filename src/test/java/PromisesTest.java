/** Every promise of the document by its number: ordinary inputs, edges, wrong inputs. */
public final class PromisesTest {
    private static final int LEAST_INT = Integer.MIN_VALUE;
    private static final long LONG_BAD = Long.MIN_VALUE + 2;
    private static final int NULL = -11, INDEX = -12, CAST = -13, STORE = -14, SIZE = -15;
    private static final int LOW = Integer.MIN_VALUE, HIGH = Integer.MAX_VALUE;

    private static int wrong = 0;

    private static void due(int promise, String call, long got, long want) {
        if (got != want) {
            wrong++;
            System.out.println("promise " + promise + ": " + call + " answered " + got + ", due is " + want);
        }
    }

    private static void put(ApproverWins x, int text, String bytes) {
        x.wipe(text);
        for (int i = 0; i < bytes.length(); i++) {
            x.type(text, bytes.charAt(i));
        }
    }

    private static ApproverWins of(String felons, String names) {
        ApproverWins x = new ApproverWins();
        put(x, 0, felons);
        put(x, 1, names);
        return x;
    }

    private static void fraction(int promise, String call, long above, long below, long wantAbove, long wantBelow) {
        due(promise, call + " above", above, wantAbove);
        due(promise, call + " below", below, wantBelow);
    }

    public static void main(String[] args) {
        newObject();
        typing();
        wiping();
        undoing();
        faults();
        felons();
        names();
        setting();
        comes();
        behind();
        alive();
        lives();
        harm();
        worst();
        fates();
        order();
        best();
        price();
        rule();
        chain();
        seen();
        forget();
        read();
        bribes();
        kinds();
        ask();
        gaols();
        sheet();
        lose();
        lay();
        get();
        copy();
        write();
        count();
        digest();
        System.out.println(wrong == 0 ? "all promises hold" : wrong + " answers are not as due");
        if (wrong != 0) {
            System.exit(1);
        }
    }

    private static void newObject() {
        ApproverWins x = new ApproverWins();
        for (int what = 0; what <= 8; what++) {
            due(1, "count(" + what + ")", x.count(what), 0);
        }
        for (int s = 0; s < 4; s++) {
            due(1, "lose(" + s + ")", x.lose(s), NULL);
        }
        due(1, "felon(0, 0)", x.felon(0, 0), -2);
        due(1, "name(0)", x.name(0), -1);
        due(1, "set(0, 5)", x.set(0, 5), 5);
        due(1, "set(1, 5)", x.set(1, 5), 5);
        due(1, "set(2, 5)", x.set(2, 5), 5);
        ApproverWins y = new ApproverWins();
        x.type(0, 'f');
        due(1, "another object's count(2)", y.count(2), 0);
    }

    private static void typing() {
        ApproverWins x = new ApproverWins();
        for (int text : new int[] {-1, 2, LOW, HIGH}) {
            due(2, "type(" + text + ", 97)", x.type(text, 97), -2);
        }
        for (int b : new int[] {-1, 256, LOW, HIGH}) {
            due(2, "type(0, " + b + ")", x.type(0, b), -2);
            due(2, "type(1, " + b + ")", x.type(1, b), -2);
        }
        due(2, "count(2) behind refusals", x.count(2), 0);
        due(2, "type(0, 0)", x.type(0, 0), 1);
        due(2, "type(0, 255)", x.type(0, 255), 2);
        for (int i = 3; i <= 47; i++) {
            due(2, "type(0, 102) as byte " + i, x.type(0, 102), i);
        }
        due(2, "type(0, 102), full", x.type(0, 102), -4);
        due(2, "type(0, 256), full: BAD comes first", x.type(0, 256), -2);
        due(2, "count(2)", x.count(2), 47);
        for (int i = 1; i <= 12; i++) {
            due(2, "type(1, 97) as byte " + i, x.type(1, 97), i);
        }
        due(2, "type(1, 97), full", x.type(1, 97), -4);
        due(2, "count(3)", x.count(3), 12);
    }

    private static void wiping() {
        ApproverWins x = of("f00g.", "abc");
        due(3, "wipe(-1)", x.wipe(-1), -2);
        due(3, "wipe(2)", x.wipe(2), -2);
        due(3, "wipe(1)", x.wipe(1), 3);
        due(3, "wipe(1) again", x.wipe(1), 0);
        due(3, "count(1)", x.count(1), 0);
        due(3, "count(0)", x.count(0), 1);
        due(3, "wipe(0)", x.wipe(0), 5);
        due(3, "count(0) behind wipe", x.count(0), 0);
        due(3, "count(2)", x.count(2), 0);
    }

    private static void undoing() {
        ApproverWins x = of("f00g.;d00i1", "ab");
        due(4, "undo(-1)", x.undo(-1), -2);
        due(4, "undo(2)", x.undo(2), -2);
        due(4, "undo(1)", x.undo(1), 1);
        due(4, "count(1)", x.count(1), 1);
        due(4, "undo(1)", x.undo(1), 0);
        due(4, "undo(1), empty", x.undo(1), -3);
        due(4, "undo(0)", x.undo(0), 10);
        due(4, "count(0), not ended", x.count(0), 0);
        x.type(0, '.');
        due(4, "felon(1, 4) typed again", x.felon(1, 4), -1);
    }

    private static void faults() {
        ApproverWins x = new ApproverWins();
        due(5, "fault(-1)", x.fault(-1), -2);
        due(5, "fault(2)", x.fault(2), -2);
        String[] texts = {
            "", "f00g.", "f00g.;", "f", "f0", "f00", "f00g", "x", "fx", "f0x", "f00x", "f00gx", "f00g.x",
            "f00g8", "f00g7", "c99i0", "r12g3", "d05i.", "f00g.;f00g.", "f00g.;f", "f00g.;;", ";", "F00g.",
            "f/0g.", "f:0g.", "f00g/", "f00h.", "f00g.f00g.", "f00g.;c55i1;r", "\0", "f00g.;c0\u00ff",
            "f00g.;f00g.;f00g.;f00g.;f00g.;f00g.;f00g.;f00g.",
            "f00g.;f00g.;f00g.;f00g.;f00g.;f00g.;f00g.;f00g",
            "f00g.;f00g.;f00g.;f00g.;f00g.;f00g.;f00g.;",
        };
        int[] wanted = {
            -1, -1, 6, 1, 2, 3, 4, 0, 1, 2, 3, 4, 5,
            4, -1, -1, -1, -1, -1, 7, 6, 0, 0,
            1, 1, 4, 3, 5, 13, 0, 8,
            -1,
            46,
            42,
        };
        for (int i = 0; i < texts.length; i++) {
            put(x, 0, texts[i]);
            due(5, "fault(0) of " + texts[i], x.fault(0), wanted[i]);
            int felons = wanted[i] == -1 ? (texts[i].length() + 1) / 6 : 0;
            due(5, "count(0) of " + texts[i], x.count(0), felons);
        }
        String[] names = {"", "a", "h", "i", "`", "abcdefghabcd", "abcdefghabci", "aab", "ab;c", "A"};
        int[] namesWanted = {-1, -1, -1, 0, 0, -1, 11, -1, 2, 0};
        for (int i = 0; i < names.length; i++) {
            put(x, 1, names[i]);
            due(5, "fault(1) of " + names[i], x.fault(1), namesWanted[i]);
            due(5, "count(1) of " + names[i], x.count(1), namesWanted[i] == -1 ? names[i].length() : 0);
        }
    }

    private static void felons() {
        ApproverWins x = of("f30i1;c51g2;r36i7;d09g.", "");
        int[][] wanted = {{0, 3, 0, 0, 1}, {1, 5, 1, 1, 2}, {2, 3, 6, 0, 7}, {3, 0, 9, 1, -1}};
        for (int felon = 0; felon < wanted.length; felon++) {
            for (int what = 0; what < 5; what++) {
                due(6, "felon(" + felon + ", " + what + ")", x.felon(felon, what), wanted[felon][what]);
            }
        }
        for (int bad : new int[] {-1, 4, 7, 8, LOW, HIGH}) {
            due(6, "felon(" + bad + ", 0)", x.felon(bad, 0), -2);
        }
        for (int bad : new int[] {-1, 5, LOW, HIGH}) {
            due(6, "felon(0, " + bad + ")", x.felon(0, bad), -2);
        }
        x.type(0, ';');
        due(6, "felon(0, 0) with a FAULT", x.felon(0, 0), -2);
    }

    private static void names() {
        ApproverWins x = of("f00g.", "hac");
        due(7, "name(0)", x.name(0), 7);
        due(7, "name(1)", x.name(1), 0);
        due(7, "name(2)", x.name(2), 2);
        due(7, "name(3)", x.name(3), -1);
        due(7, "name(11)", x.name(11), -1);
        for (int bad : new int[] {-1, 12, LOW, HIGH}) {
            due(7, "name(" + bad + ")", x.name(bad), -2);
        }
        x.type(1, 'z');
        due(7, "name(0) with a FAULT", x.name(0), -1);
    }

    private static void setting() {
        ApproverWins x = new ApproverWins();
        int[][] refused = {
            {-1, 1}, {3, 1}, {LOW, 1}, {HIGH, 1}, {0, -1}, {0, 10}, {1, 0}, {1, 9}, {2, -1}, {2, 10}, {1, LOW}, {2, HIGH},
        };
        for (int[] pair : refused) {
            due(8, "set(" + pair[0] + ", " + pair[1] + ")", x.set(pair[0], pair[1]), -2);
        }
        due(8, "set(0, 0)", x.set(0, 0), 5);
        due(8, "set(0, 9)", x.set(0, 9), 0);
        due(8, "set(0, 9) again", x.set(0, 9), 9);
        due(8, "set(1, 1)", x.set(1, 1), 5);
        due(8, "set(1, 8)", x.set(1, 8), 1);
        due(8, "set(2, 0)", x.set(2, 0), 5);
        due(8, "set(2, 9)", x.set(2, 9), 0);
        due(8, "behind(0, 0)", x.behind(0, 0), 9);
    }

    private static void comes() {
        // f fights; c guilty confesses; c innocent fights; r of 5 settles; r of 4 fights; d is idle.
        ApproverWins x = of("f50g.;c50g.;c60i.;r05i.;r94g.;d00g.", "fabgcadeb");
        x.set(1, 8);
        int[] come = {4, 3, 1, 0, 3, 0, 2, 3, 0};
        int[] sixteenths = {16, 8, 16, 16, 7, 16, 16, 4, 16};
        for (int i = 0; i < come.length; i++) {
            due(9, "comes(" + i + ", 0)", x.comes(i, 0), come[i]);
            due(9, "comes(" + i + ", 1)", x.comes(i, 1), sixteenths[i]);
        }
        for (int bad : new int[] {-1, 9, 12, LOW, HIGH}) {
            due(9, "comes(" + bad + ", 0)", x.comes(bad, 0), -2);
        }
        for (int bad : new int[] {-1, 2, LOW, HIGH}) {
            due(9, "comes(0, " + bad + ")", x.comes(0, bad), -2);
        }
        x.set(1, 2);
        due(9, "comes(4, 0) behind the WINS", x.comes(4, 0), 0);
        due(9, "comes(4, 1) behind the WINS", x.comes(4, 1), 16);
        x = of("f00g.;f90g.", "ab");
        x.set(0, 9);
        due(9, "comes(0, 1), 17 at most 16", x.comes(0, 1), 16);
        due(9, "comes(0, 0), a sure FIGHT", x.comes(0, 0), 3);
        x = of("f90g.;f90g.", "ab");
        x.set(0, 0);
        due(9, "comes(0, 1), -1 at least 0", x.comes(0, 1), 0);
        due(9, "comes(1, 1), if he is alive", x.comes(1, 1), 0);
        due(9, "comes(1, 0), if he is alive", x.comes(1, 0), 3);
    }

    private static void behind() {
        ApproverWins x = of("c50g.;f50g.;f50g.;r09g.;c50g.;c50g.;d00g.;f50g.", "abcdegfh");
        x.set(1, 7);
        int[] strong = {5, 5, 4, 3, 4, 5, 5, 5, 4};
        int[] wins = {0, 1, 2, 3, 4, 5, 5, 6, 7};
        for (int i = 0; i < strong.length; i++) {
            due(10, "behind(" + i + ", 0)", x.behind(i, 0), strong[i]);
            due(10, "behind(" + i + ", 1)", x.behind(i, 1), wins[i]);
        }
        for (int bad : new int[] {-1, 9, 13, LOW, HIGH}) {
            due(10, "behind(" + bad + ", 0)", x.behind(bad, 0), -2);
        }
        for (int bad : new int[] {-1, 2, LOW, HIGH}) {
            due(10, "behind(0, " + bad + ")", x.behind(0, bad), -2);
        }
        x = of("c00g.;f00g.", "abab");
        x.set(0, 0);
        due(10, "behind(1, 0), no STRONGER than at first", x.behind(1, 0), 0);
        due(10, "behind(2, 0), 0 at least", x.behind(2, 0), 0);
        due(10, "behind(4, 1), named twice", x.behind(4, 1), 2);
        x.set(0, 9);
        due(10, "behind(1, 0), no STRONGER than as set", x.behind(1, 0), 9);
    }

    private static void alive() {
        ApproverWins x = of("f50g.;c50g.;f10i.;f99i.", "abcd");
        fraction(11, "alive(0)", x.alive(0, 0), x.alive(0, 1), 1, 1);
        fraction(11, "alive(1)", x.alive(1, 0), x.alive(1, 1), 1, 2);
        fraction(11, "alive(2)", x.alive(2, 0), x.alive(2, 1), 1, 2);
        fraction(11, "alive(3)", x.alive(3, 0), x.alive(3, 1), 3, 8);
        fraction(11, "alive(4)", x.alive(4, 0), x.alive(4, 1), 9, 128);
        for (int bad : new int[] {-1, 5, LOW, HIGH}) {
            due(11, "alive(" + bad + ", 0)", x.alive(bad, 0), LONG_BAD);
        }
        for (int bad : new int[] {-1, 2, LOW, HIGH}) {
            due(11, "alive(0, " + bad + ")", x.alive(0, bad), LONG_BAD);
        }
        x = of("f90g.;c00g.", "ab");
        x.set(0, 0);
        fraction(11, "alive(1), surely dead", x.alive(1, 0), x.alive(1, 1), 0, 1);
        fraction(11, "alive(2), surely dead", x.alive(2, 0), x.alive(2, 1), 0, 1);
    }

    private static void lives() {
        ApproverWins x = of("f50g.;c50g.;f10i.", "abc");
        fraction(12, "lives of 3 by 5 WINS", x.lives(0), x.lives(1), 0, 1);
        x.set(1, 3);
        fraction(12, "lives of 3 by 3 WINS", x.lives(0), x.lives(1), 3, 8);
        x.set(1, 1);
        fraction(12, "lives of 3 by 1 WIN", x.lives(0), x.lives(1), 1, 2);
        due(12, "lives(-1)", x.lives(-1), LONG_BAD);
        due(12, "lives(2)", x.lives(2), LONG_BAD);
        // The least odd chance of all: eight FIGHTS, each by an odd number of sixteenths.
        x = of("f01g.;f01g.;f01g.;f01g.;f01g.;f01g.;f01g.;f01g.", "abcdefgh");
        x.set(1, 8);
        x.set(0, 8);
        long above = 16L * 15 * 14 * 13 * 12 * 11 * 10 * 9;
        long below = 1L << 32;
        while (above % 2 == 0) {
            above /= 2;
            below /= 2;
        }
        fraction(12, "lives of 8 FIGHTS", x.lives(0), x.lives(1), above, below);
    }

    private static void harm() {
        // By 8, 8 and 11 sixteenths; the first and the third are innocent: 1/2 + 11/64.
        ApproverWins x = of("f50i.;f40g.;c00i.;r09i.;d00i.", "abcde");
        fraction(13, "harm", x.harm(0), x.harm(1), 43, 64);
        x.set(1, 1);
        fraction(13, "harm by 1 WIN", x.harm(0), x.harm(1), 1, 2);
        put(x, 1, "bde");
        fraction(13, "harm of none", x.harm(0), x.harm(1), 0, 1);
        // Sure FIGHTS against innocents: a whole number by 1.
        x = of("f00i.;f00i.", "ab");
        x.set(0, 9);
        fraction(13, "harm of two sure FIGHTS", x.harm(0), x.harm(1), 2, 1);
        due(13, "harm(-1)", x.harm(-1), LONG_BAD);
        due(13, "harm(2)", x.harm(2), LONG_BAD);
    }

    private static void worst() {
        ApproverWins x = of("f50g.;f40g.;c00g.", "");
        due(14, "worst(), no NAMES", x.worst(), -1);
        put(x, 1, "ch");
        due(14, "worst(), no FIGHT", x.worst(), 0);
        put(x, 1, "cab");
        due(14, "worst(), of like ones the first", x.worst(), 1);
        put(x, 1, "cba");
        due(14, "worst()", x.worst(), 2);
        put(x, 1, "cbaz");
        due(14, "worst() with a FAULT", x.worst(), -1);
        x = of("f00g.", "ha");
        x.set(0, 9);
        due(14, "worst(), 16 at all", x.worst(), 0);
    }

    private static void fates() {
        ApproverWins x = of("f50g.;c50g.;r05g.;d00g.;f00g.;f00g.", "aabcde");
        x.set(1, 3);
        int[] wanted = {3, 1, 2, 0, 0, -1};
        for (int felon = 0; felon < wanted.length; felon++) {
            due(15, "fate(" + felon + ")", x.fate(felon), wanted[felon]);
        }
        x.set(1, 4);
        due(15, "fate(3)", x.fate(3), 4);
        due(15, "fate(4)", x.fate(4), 3);
        for (int bad : new int[] {-1, 6, 7, 8, LOW, HIGH}) {
            due(15, "fate(" + bad + ")", x.fate(bad), -2);
        }
    }

    private static void order() {
        // The dead one is IDLE, and a row with it is less than one that names b first.
        ApproverWins x = of("d00g.;c00g.;f00g.;c00g.", "");
        x.set(1, 2);
        int[] wanted = {0, 1, 3, -1, -1, -1, -1, -1};
        due(16, "order(NONE)", x.order(-1), 3);
        for (int i = 0; i < wanted.length; i++) {
            due(16, "order(" + i + ")", x.order(i), wanted[i]);
        }
        for (int bad : new int[] {-2, 8, LOW, HIGH}) {
            due(16, "order(" + bad + ")", x.order(bad), -2);
        }
        x.set(1, 3);
        due(16, "order(NONE) by 3 WINS", x.order(-1), 4);
        due(16, "order(2) by 3 WINS: a FIGHT is made good by a confession", x.order(2), 2);
        x.set(1, 4);
        due(16, "order(NONE), too many WINS", x.order(-1), -1);
        due(16, "order(0), too many WINS", x.order(0), -1);
        x = of("f90g.", "a");
        x.set(1, 1);
        x.set(0, 0);
        due(16, "order(NONE), chance 0", x.order(-1), -1);
        due(16, "order(0), chance 0", x.order(0), -1);
        x.set(0, 2);
        due(16, "order(NONE), a chance again", x.order(-1), 1);
        x.undo(0);
        due(16, "order(NONE) with a FAULT", x.order(-1), -1);
        // The weaker foe is best left for when he is weaker: like chances, the least row.
        x = of("f50g.;f40g.", "");
        x.set(1, 2);
        due(16, "order(0) of two FIGHTS", x.order(0), 0);
        due(16, "order(1) of two FIGHTS", x.order(1), 1);
    }

    private static void best() {
        ApproverWins x = of("f40g.;f50g.", "");
        fraction(17, "best, too many WINS", x.best(0), x.best(1), 0, 1);
        x.set(1, 2);
        // a first: 9/16 * 7/16; b first: 8/16 * 8/16.
        fraction(17, "best", x.best(0), x.best(1), 1, 4);
        due(17, "order(0)", x.order(0), 1);
        x.set(1, 1);
        fraction(17, "best by 1 WIN", x.best(0), x.best(1), 9, 16);
        put(x, 0, "c00g.");
        fraction(17, "best of a confession", x.best(0), x.best(1), 1, 1);
        due(17, "best(-1)", x.best(-1), LONG_BAD);
        due(17, "best(2)", x.best(2), LONG_BAD);
    }

    private static void price() {
        // Who SETTLES is never worse for him than who FIGHTS, so of like ones the least is always 0.
        ApproverWins x = of("r95g.;f50g.", "ab");
        due(18, "price(), no chance by any", x.price(), 0);
        x.set(1, 2);
        x.set(2, 9);
        due(18, "price()", x.price(), 0);
        due(18, "set(2, 5): the BRIBE stays", x.set(2, 5), 9);
        due(18, "comes(0, 0): so does what comes", x.comes(0, 0), 2);
        x.type(0, ';');
        due(18, "price() with a FAULT", x.price(), 0);
    }

    private static void rule() {
        ApproverWins x = of("f50g.;f50g.;c50g.", "abc");
        // Chances by WINS 1, 2, 3: 1/2, 7/32, 7/32; 0 above.
        due(19, "rule(0)", x.rule(0), 8);
        due(19, "rule(1)", x.rule(1), 3);
        due(19, "rule(3)", x.rule(3), 3);
        due(19, "rule(4)", x.rule(4), 1);
        due(19, "rule(8)", x.rule(8), 1);
        due(19, "rule(9)", x.rule(9), -1);
        due(19, "rule(16)", x.rule(16), -1);
        for (int bad : new int[] {-1, 17, LOW, HIGH}) {
            due(19, "rule(" + bad + ")", x.rule(bad), -2);
        }
        due(19, "set(1, 5): the WINS stay", x.set(1, 5), 5);
        put(x, 1, "c");
        due(19, "rule(16) of a confession", x.rule(16), 1);
    }

    private static void chain() {
        ApproverWins x = of("f00g1;d00g2;c00i3;f00g3;f00g0;r00g7;f00g.", "");
        int[] wanted = {7, 6, 4, 8, 23, 32, 64};
        for (int felon = 0; felon < wanted.length; felon++) {
            due(20, "chain(" + felon + ")", x.chain(felon), wanted[felon]);
        }
        for (int bad : new int[] {-1, 7, 8, LOW, HIGH}) {
            due(20, "chain(" + bad + ")", x.chain(bad), -2);
        }
        x = of("f00g1;f00g2;f00g3;f00g4;f00g5;f00g6;f00g7;f00g0", "");
        for (int felon = 0; felon < 8; felon++) {
            due(20, "chain(" + felon + ") of a ring", x.chain(felon), 255);
        }
        x = of("f00g1;f00g2;f00g1", "");
        due(20, "chain(0) into a ring", x.chain(0), 7);
        due(20, "chain(1) in a ring", x.chain(1), 6);
    }

    private static void seen() {
        ApproverWins x = new ApproverWins();
        int[][] refused = {{-1, 0}, {8, 0}, {0, -1}, {0, 5}, {LOW, 0}, {HIGH, 0}, {0, LOW}, {0, HIGH}};
        for (int[] pair : refused) {
            due(21, "seen(" + pair[0] + ", " + pair[1] + ")", x.seen(pair[0], pair[1]), -2);
        }
        for (int i = 1; i <= 8; i++) {
            due(21, "seen as " + i, x.seen(i - 1, i % 5), i);
        }
        due(21, "seen(0, 0), full", x.seen(0, 0), -4);
        due(21, "seen(8, 0), full: BAD comes first", x.seen(8, 0), -2);
        due(21, "count(7)", x.count(7), 8);
    }

    private static void forget() {
        ApproverWins x = of("f00g.", "a");
        due(22, "forget(), none", x.forget(), 0);
        x.seen(0, 1);
        x.seen(0, 2);
        due(22, "bribes()", x.bribes(), 0);
        due(22, "forget()", x.forget(), 2);
        due(22, "count(7)", x.count(7), 0);
        due(22, "bribes() behind forget", x.bribes(), 1023);
    }

    private static void read() {
        ApproverWins x = new ApproverWins();
        due(23, "read(-1)", x.read(-1), -2);
        due(23, "read(4)", x.read(4), -2);
        due(23, "read(0), LOST", x.read(0), NULL);
        due(23, "count(8)", x.count(8), 1);
        x.sheet(0, 0, 0);
        due(23, "read(0) of 0 items", x.read(0), 0);
        x.sheet(0, 0, 1);
        due(23, "read(0) of 1 item", x.read(0), 0);
        x.sheet(0, 0, 5);
        x.lay(0, 0, 0, 7);
        x.lay(0, 0, 1, 4);
        due(23, "read(0) of 5 items", x.read(0), 2);
        due(23, "count(7)", x.count(7), 2);
        due(23, "read(0) more", x.read(0), 2);
        due(23, "count(7), more", x.count(7), 4);
        x.sheet(1, 2, 6);
        x.lay(1, 2, 2, -1);
        due(23, "read(1), the second is wrong", x.read(1), 1);
        x.lay(1, 2, 0, 8);
        due(23, "read(1), the first is wrong", x.read(1), 0);
        x.sheet(2, 1, 60);
        due(23, "read(2), as many as there is room", x.read(2), 3);
        due(23, "count(7), full", x.count(7), 8);
        due(23, "read(2), full", x.read(2), 0);
        ApproverWins y = of("f00g.", "a");
        y.sheet(0, 0, 2);
        y.lay(0, 0, 1, 1);
        y.read(0);
        due(23, "kinds(0) by what was read", y.kinds(0), 2);
    }

    private static void bribes() {
        ApproverWins x = of("r95g.;r92i.", "ab");
        due(24, "bribes(), nothing SEEN", x.bribes(), 1023);
        x.seen(0, 2);
        due(24, "bribes(), 5 SETTLES", x.bribes(), 63);
        x.seen(1, 3);
        due(24, "bribes(), 2 FIGHTS", x.bribes(), 63 - 7);
        x.seen(2, 0);
        due(24, "bribes(), one that is not named: never", x.bribes(), 0);
        x.type(1, 'c');
        due(24, "bribes(), named, no such FELON: VOID", x.bribes(), 63 - 7);
        due(24, "set(2, 5): the BRIBE stays", x.set(2, 5), 5);
    }

    private static void kinds() {
        ApproverWins x = of("f55g.;f54i.", "ab");
        due(25, "kinds(0), nothing SEEN", x.kinds(0), 15);
        x.seen(0, 3);
        due(25, "kinds(0), GUILTY, rich enough: f", x.kinds(0), 1);
        due(25, "kinds(1)", x.kinds(1), 15);
        x.seen(1, 3);
        due(25, "kinds(1), innocent, not rich enough: f, c, r", x.kinds(1), 7);
        due(25, "felon(1, 0): its kind stays", x.felon(1, 0), 0);
        x.forget();
        x.seen(1, 0);
        x.set(1, 1);
        due(25, "kinds(0) by another's FATE: not d", x.kinds(0), 7);
        for (int bad : new int[] {-1, 2, 8, LOW, HIGH}) {
            due(25, "kinds(" + bad + ")", x.kinds(bad), -2);
        }
    }

    private static void ask() {
        ApproverWins x = new ApproverWins();
        due(26, "ask(), no FELONS", x.ask(), -1);
        // By BRIBES 0 to 9: b SETTLES by 8, c by 5, d by 6: c parts them best (6 and 4).
        put(x, 0, "f00g.;r97g.;r95g.;r96g.");
        put(x, 1, "abcd");
        due(26, "ask()", x.ask(), 2);
        x.seen(1, 2);
        // 8 are left: c parts them 6 and 2, d 7 and 1.
        due(26, "ask() of 8 BRIBES", x.ask(), 2);
        x.seen(2, 3);
        // 6 and 7 are left: d parts them.
        due(26, "ask() of 2 BRIBES", x.ask(), 3);
        x.seen(3, 3);
        due(26, "ask() of 1 BRIBE: of like ones the least", x.ask(), 0);
        x.seen(0, 4);
        due(26, "ask() of no BRIBE", x.ask(), 0);
        x.forget();
        put(x, 1, "");
        due(26, "ask(), none named", x.ask(), 0);
    }

    private static int[] playByHand(int seed, int n, int[] sixteenths, boolean[] innocent) {
        int lives = 0;
        int lost = 0;
        int state = seed;
        for (int time = 0; time < n; time++) {
            boolean isAlive = true;
            for (int i = 0; i < sixteenths.length && isAlive; i++) {
                state = state * 1103515245 + 12345;
                int lot = ((state >> 16) & 0xffff) % 16;
                isAlive = lot < sixteenths[i];
                if (isAlive && innocent[i]) {
                    lost++;
                }
            }
            lives += isAlive ? 1 : 0;
        }
        return new int[] {lives, lost};
    }

    private static void gaols() {
        ApproverWins x = of("f40i.;c00g.;f10g.;f00i.", "abcd");
        x.set(1, 4);
        int[] sixteenths = {9, 12, 12};
        boolean[] innocent = {true, false, true};
        for (int seed : new int[] {0, 1, 7, -1, LOW, HIGH, 12345}) {
            for (int n : new int[] {1, 2, 30, 99}) {
                int[] wanted = playByHand(seed, n, sixteenths, innocent);
                due(27, "gaols(" + seed + ", " + n + ", 0)", x.gaols(seed, n, 0), wanted[0]);
                due(27, "gaols(" + seed + ", " + n + ", 1)", x.gaols(seed, n, 1), wanted[1]);
            }
        }
        x.set(1, 5);
        due(27, "gaols, not all WINS", x.gaols(7, 99, 0), 0);
        due(27, "gaols, not all WINS: innocents", x.gaols(7, 99, 1), playByHand(7, 99, sixteenths, innocent)[1]);
        for (int bad : new int[] {-1, 0, 100, LOW, HIGH}) {
            due(27, "gaols(7, " + bad + ", 0)", x.gaols(7, bad, 0), -2);
        }
        for (int bad : new int[] {-1, 2, LOW, HIGH}) {
            due(27, "gaols(7, 9, " + bad + ")", x.gaols(7, 9, bad), -2);
        }
    }

    private static void sheet() {
        ApproverWins x = new ApproverWins();
        int[][] refused = {{-1, 0, 1}, {4, 0, 1}, {0, -1, 1}, {0, 3, 1}, {0, 0, 61}, {LOW, 0, 1}, {0, HIGH, 1}, {0, 0, HIGH}};
        for (int[] call : refused) {
            due(28, "sheet(" + call[0] + ", " + call[1] + ", " + call[2] + ")", x.sheet(call[0], call[1], call[2]), -2);
        }
        due(28, "sheet(4, 0, -1): BAD comes first", x.sheet(4, 0, -1), -2);
        due(28, "count(8)", x.count(8), 0);
        due(28, "sheet(0, 0, -1)", x.sheet(0, 0, -1), SIZE);
        due(28, "sheet(0, 0, LOW)", x.sheet(0, 0, LOW), SIZE);
        due(28, "count(8) of SIZE", x.count(8), 5);
        due(28, "lose(0), still LOST", x.lose(0), NULL);
        due(28, "sheet(0, 0, 0)", x.sheet(0, 0, 0), 0);
        due(28, "sheet(3, 2, 60)", x.sheet(3, 2, 60), 60);
        x.lay(3, 2, 59, 7);
        due(28, "sheet(3, 0, -1), SIZE changes nothing", x.sheet(3, 0, -1), SIZE);
        due(28, "get(3, 2, 59)", x.get(3, 2, 59), 7);
        due(28, "sheet(3, 2, 60) anew", x.sheet(3, 2, 60), 60);
        due(28, "get(3, 2, 59) anew", x.get(3, 2, 59), 0);
    }

    private static void lose() {
        ApproverWins x = new ApproverWins();
        due(29, "lose(-1)", x.lose(-1), -2);
        due(29, "lose(4)", x.lose(4), -2);
        x.sheet(2, 1, 17);
        due(29, "lose(2)", x.lose(2), 17);
        due(29, "lose(2), LOST", x.lose(2), NULL);
        due(29, "count(8)", x.count(8), 1);
        x.sheet(2, 1, 0);
        due(29, "lose(2) of 0 items", x.lose(2), 0);
    }

    private static void lay() {
        ApproverWins x = new ApproverWins();
        due(30, "lay(-1, 0, 0, 0)", x.lay(-1, 0, 0, 0), -2);
        due(30, "lay(4, 0, 0, 0)", x.lay(4, 0, 0, 0), -2);
        due(30, "lay(0, -1, 0, 0)", x.lay(0, -1, 0, 0), -2);
        due(30, "lay(0, 3, 0, 0), BAD ahead of NULL", x.lay(0, 3, 0, 0), -2);
        due(30, "lay(0, 0, 0, 0), LOST", x.lay(0, 0, 0, 0), NULL);
        x.sheet(0, 0, 3);
        x.sheet(1, 1, 3);
        x.sheet(2, 2, 3);
        due(30, "lay(0, 1, 9, 0), CAST ahead of INDEX", x.lay(0, 1, 9, 0), CAST);
        due(30, "lay(0, 0, 3, 0)", x.lay(0, 0, 3, 0), INDEX);
        due(30, "lay(0, 0, -1, 0)", x.lay(0, 0, -1, 0), INDEX);
        due(30, "lay(0, 0, LOW, 0)", x.lay(0, 0, LOW, 0), INDEX);
        due(30, "count(8)", x.count(8), 2);
        int[] values = {0, 1, -1, 127, 128, 255, 256, 32767, 32768, 65535, 65536, LOW, HIGH, 0x12345678};
        for (int v : values) {
            for (int form = 0; form < 3; form++) {
                due(30, "lay(" + form + ", " + form + ", 2, " + v + ")", x.lay(form, form, 2, v), 1);
                int kept = form == 0 ? (byte) v : form == 1 ? (short) v : v;
                due(30, "get of " + v + " in form " + form, x.get(form, form, 2), kept);
            }
        }
    }

    private static void get() {
        ApproverWins x = new ApproverWins();
        due(31, "get(-1, 0, 0)", x.get(-1, 0, 0), LEAST_INT);
        due(31, "get(0, 3, 0)", x.get(0, 3, 0), LEAST_INT);
        due(31, "count(8), BAD is no FINDING", x.count(8), 0);
        due(31, "get(0, 0, 0), LOST", x.get(0, 0, 0), LEAST_INT);
        due(31, "count(8) of NULL", x.count(8), 1);
        x.sheet(0, 1, 2);
        x.lay(0, 1, 1, -5);
        due(31, "get(0, 2, 7)", x.get(0, 2, 7), LEAST_INT);
        due(31, "count(8) of CAST", x.count(8), 3);
        due(31, "get(0, 1, 2)", x.get(0, 1, 2), LEAST_INT);
        due(31, "count(8) of INDEX", x.count(8), 2);
        due(31, "get(4, 1, 0)", x.get(4, 1, 0), LEAST_INT);
        due(31, "count(8) behind BAD", x.count(8), 2);
        due(31, "get(0, 1, 1)", x.get(0, 1, 1), -5);
        due(31, "get(0, 1, 0)", x.get(0, 1, 0), 0);
        due(31, "get(0, 1, -1)", x.get(0, 1, -1), LEAST_INT);
    }

    private static void copy() {
        ApproverWins x = new ApproverWins();
        due(32, "copy(-1, 0, 0, 0, 0)", x.copy(-1, 0, 0, 0, 0), -2);
        due(32, "copy(0, 0, 4, 0, 0), BAD ahead of NULL", x.copy(0, 0, 4, 0, 0), -2);
        due(32, "copy(0, 0, 0, 0, 0), LOST", x.copy(0, 0, 0, 0, 0), NULL);
        x.sheet(0, 0, 5);
        due(32, "copy(0, 0, 1, 0, 0), t LOST", x.copy(0, 0, 1, 0, 0), NULL);
        due(32, "copy(1, 0, 0, 0, 0), s LOST", x.copy(1, 0, 0, 0, 0), NULL);
        x.sheet(1, 1, 5);
        due(32, "copy(0, 9, 1, 0, 1), STORE ahead of INDEX", x.copy(0, 9, 1, 0, 1), STORE);
        due(32, "count(8)", x.count(8), 4);
        x.sheet(1, 0, 3);
        int[][] refused = {
            {-1, 0, 1}, {0, -1, 1}, {0, 0, -1}, {5, 0, 1}, {0, 3, 1}, {0, 0, 4}, {3, 0, 3}, {6, 0, 0}, {0, 4, 0},
            {HIGH, 0, HIGH}, {0, HIGH, HIGH}, {LOW, 0, 1}, {0, 0, HIGH}, {0, 0, LOW}, {1, 1, HIGH},
        };
        for (int[] call : refused) {
            String told = "copy(0, " + call[0] + ", 1, " + call[1] + ", " + call[2] + ")";
            due(32, told, x.copy(0, call[0], 1, call[1], call[2]), INDEX);
        }
        due(32, "copy(0, 5, 1, 3, 0), none at the end", x.copy(0, 5, 1, 3, 0), 1);
        for (int i = 0; i < 5; i++) {
            x.lay(0, 0, i, i + 1);
        }
        due(32, "copy(0, 2, 1, 0, 3)", x.copy(0, 2, 1, 0, 3), 1);
        rowDue(x, 1, new int[] {3, 4, 5});
        due(32, "copy(0, 0, 0, 1, 4)", x.copy(0, 0, 0, 1, 4), 1);
        rowDue(x, 0, new int[] {1, 1, 2, 3, 4});
        due(32, "copy(0, 1, 0, 0, 4)", x.copy(0, 1, 0, 0, 4), 1);
        rowDue(x, 0, new int[] {1, 2, 3, 4, 4});
    }

    private static void rowDue(ApproverWins x, int s, int[] wanted) {
        for (int i = 0; i < wanted.length; i++) {
            due(32, "get(" + s + ", 0, " + i + ")", x.get(s, 0, i), wanted[i]);
        }
    }

    private static void write() {
        ApproverWins x = of("f00g.;c00g.;r09g.;d00g.", "abcda");
        due(33, "write(-1)", x.write(-1), -2);
        due(33, "write(4)", x.write(4), -2);
        due(33, "write(0), LOST", x.write(0), NULL);
        due(33, "count(8)", x.count(8), 1);
        x.sheet(0, 1, 7);
        x.lay(0, 1, 4, 9);
        x.lay(0, 1, 5, 9);
        due(33, "write(0)", x.write(0), 5);
        int[] wanted = {3, 1, 2, 4, 0, 9, 0};
        for (int i = 0; i < wanted.length; i++) {
            due(33, "get(0, 1, " + i + ")", x.get(0, 1, i), wanted[i]);
        }
        x.sheet(0, 2, 2);
        due(33, "write(0) of 2 items", x.write(0), 2);
        due(33, "get(0, 2, 1)", x.get(0, 2, 1), 1);
        x.sheet(0, 0, 0);
        due(33, "write(0) of 0 items", x.write(0), 0);
        x.wipe(1);
        x.sheet(0, 0, 4);
        due(33, "write(0) of no NAMES", x.write(0), 0);
    }

    private static void count() {
        ApproverWins x = of("f00g.;c00g.;r09g.;d00g.;f00i.", "abcdhae");
        x.seen(0, 0);
        x.lose(0);
        int[] wanted = {5, 7, 29, 7, 2, 4, 5, 1, 1};
        for (int what = 0; what < wanted.length; what++) {
            due(34, "count(" + what + ")", x.count(what), wanted[what]);
        }
        for (int bad : new int[] {-1, 9, LOW, HIGH}) {
            due(34, "count(" + bad + ")", x.count(bad), -2);
        }
        x.set(1, 1);
        due(34, "count(4) by 1 WIN", x.count(4), 1);
        due(34, "count(5) by 1 WIN", x.count(5), 1);
        due(34, "count(6) by 1 WIN", x.count(6), 1);
        x.type(1, 'z');
        due(34, "count(1) with a FAULT", x.count(1), 0);
        due(34, "count(3) with a FAULT", x.count(3), 8);
        due(34, "count(5) with a FAULT", x.count(5), 0);
    }

    private static long more(long h, long... each) {
        long sum = h;
        for (long one : each) {
            sum = 31 * sum + one;
        }
        return sum;
    }

    /** The digest, from the other calls' own answers. */
    private static long digestByCalls(ApproverWins x) {
        long h = 17;
        for (int what = 0; what < 8; what++) {
            h = more(h, x.count(what));
        }
        h = more(h, x.fault(0), x.fault(1));
        for (int f = 0; f < x.count(0); f++) {
            h = more(h, x.felon(f, 0), x.felon(f, 1), x.felon(f, 2), x.felon(f, 3), x.felon(f, 4));
            h = more(h, x.fate(f), x.chain(f), x.kinds(f));
        }
        for (int i = 0; i < x.count(1); i++) {
            h = more(h, x.name(i), x.comes(i, 0), x.comes(i, 1));
        }
        for (int i = 0; i <= x.count(1); i++) {
            h = more(h, x.behind(i, 0), x.behind(i, 1), x.alive(i, 0), x.alive(i, 1));
        }
        h = more(h, x.lives(0), x.lives(1), x.harm(0), x.harm(1), x.worst());
        h = more(h, x.order(-1), x.order(0), x.best(0), x.best(1), x.price(), x.rule(4), x.rule(9));
        return more(h, x.bribes(), x.ask(), x.gaols(7, 30, 0), x.gaols(7, 30, 1));
    }

    private static void digest() {
        ApproverWins x = new ApproverWins();
        due(35, "digest() of a new one", x.digest(), digestByCalls(x));
        put(x, 0, "f30i1;c50g2;c50i0;r36i4;r34g.;d00g0;f99g7;f00i3");
        due(35, "digest() of FELONS", x.digest(), digestByCalls(x));
        put(x, 1, "abcadefghh");
        due(35, "digest() of NAMES", x.digest(), digestByCalls(x));
        x.seen(0, 3);
        x.set(1, 3);
        due(35, "digest() of SEEN", x.digest(), digestByCalls(x));
        long before = x.digest();
        x.lose(0);
        x.sheet(0, 0, 9);
        due(35, "digest() knows no SHEETS and no FINDINGS", x.digest(), before);
        x.type(0, 'x');
        due(35, "digest() of a FAULT", x.digest(), digestByCalls(x));
    }
}
