import java.math.BigInteger;

/**
 * Promise by promise, the sentences that name a boundary case: empty, full, the first, the last, none.
 * What is refused for its numbers is in RefusalsTest, what the terms say is in TermsTest.
 */
public final class BoundariesTest {
    private static final Checks checks = new Checks();

    private static void due(String call, long got, long want) {
        checks.due(call, got, want);
    }

    private static ApproverWins of(String felons, String names) {
        return Checks.of(felons, names);
    }

    private static ApproverWins of(String felons, String names, int strong, int wins, int bribe) {
        return Checks.of(felons, names, strong, wins, bribe);
    }

    public static void main(String[] args) {
        newObject();
        type();
        wipe();
        undo();
        fault();
        felon();
        name();
        set();
        comes();
        behind();
        alive();
        lives();
        harm();
        worst();
        fate();
        order();
        orderAnew();
        best();
        price();
        rule();
        chain();
        seen();
        forget();
        readAsManyAsAreWhole();
        readAsLongAsEachMayBe();
        bribes();
        kinds();
        ask();
        gaols();
        sheet();
        lose();
        lay();
        get();
        copy();
        copyOntoItself();
        write();
        count();
        countOfFindings();
        digest();
        checks.allPromisesAreQuoted();
        checks.end();
    }

    // ---- felons, names

    private static void newObject() {
        checks.says(1, "No FELONS, no NAMES; all SHEETS are LOST.");
        ApproverWins x = new ApproverWins();
        for (int what = 0; what <= 8; what++) {
            due("count(" + what + ")", x.count(what), 0);
        }
        for (int text = 0; text < 2; text++) {
            due("fault(" + text + ")", x.fault(text), -1);
            due("undo(" + text + ")", x.undo(text), -3);
            due("wipe(" + text + ")", x.wipe(text), 0);
        }
        due("digest()", x.digest(), digestByCalls(x));
        due("forget()", x.forget(), 0);
        for (int s = 0; s < 4; s++) {
            due("read(" + s + ")", x.read(s), -11);
            due("write(" + s + ")", x.write(s), -11);
            due("copy of " + s, x.copy(s, 0, s, 0, 0), -11);
            due("lose(" + s + ")", x.lose(s), -11);
        }
    }

    private static void type() {
        checks.says(2, "A byte (0 to 255) comes behind a text: how many.");
        int[] limits = {47, 12};
        for (int text = 0; text < 2; text++) {
            ApproverWins x = new ApproverWins();
            for (int i = 1; i <= limits[text]; i++) {
                due("type(" + text + ", ..) as byte " + i, x.type(text, i % 2 * 255), i);
                due("count then", x.count(2 + text), i);
                due("count of the other text", x.count(3 - text), 0);
            }
            due("type(" + text + ", 0), full", x.type(text, 0), -4);
            due("undo", x.undo(text), limits[text] - 1);
            due("type, room for one again", x.type(text, 255), limits[text]);
            due("type, full again", x.type(text, 255), -4);
            due("wipe", x.wipe(text), limits[text]);
            due("type, room for all again", x.type(text, 0), 1);
        }
    }

    private static void wipe() {
        checks.says(3, "A text is empty: how many bytes it had.");
        ApproverWins x = of(Checks.EIGHT, "abcdefghabcd");
        due("wipe(0), full", x.wipe(0), 47);
        due("wipe(0), empty", x.wipe(0), 0);
        due("count(1), the other stays", x.count(1), 12);
        due("fault(0), empty", x.fault(0), -1);
        due("felon(0, 0), empty", x.felon(0, 0), -2);
        due("wipe(1), full", x.wipe(1), 12);
        due("wipe(1), empty", x.wipe(1), 0);
        due("name(0), empty", x.name(0), -1);
        x = of("f00g?", "ab?");
        due("wipe(0), with a FAULT", x.wipe(0), 5);
        due("wipe(1), with a FAULT", x.wipe(1), 3);
        due("fault(0), wiped", x.fault(0), -1);
        due("fault(1), wiped", x.fault(1), -1);
    }

    private static void undo() {
        checks.says(4, "The last byte of a text is undone: how many are left.");
        ApproverWins x = of(Checks.EIGHT, "abcdefghabcd");
        for (int left = 46; left >= 0; left--) {
            due("undo(0)", x.undo(0), left);
            boolean isWell = left == 0 || left % 6 == 5;
            due("fault(0) of " + left, x.fault(0), isWell ? -1 : left);
        }
        due("undo(0), empty", x.undo(0), -3);
        due("count(3), the other stays", x.count(3), 12);
        for (int left = 11; left >= 0; left--) {
            due("undo(1)", x.undo(1), left);
            due("count(1)", x.count(1), left);
            due("name of the one undone", x.name(left), -1);
        }
        due("undo(1), empty", x.undo(1), -3);
    }

    private static void fault() {
        checks.says(5, "The FAULT of a text; NONE.");
        ApproverWins x = of("f00g.", "h");
        due("fault(0), well", x.fault(0), -1);
        due("fault(1), well", x.fault(1), -1);
        x.type(0, 0);
        x.type(1, 255);
        due("fault(0), byte 0", x.fault(0), 5);
        due("fault(1), byte 255", x.fault(1), 1);
        x = of(Checks.EIGHT.substring(0, 46) + "8", "abcdefghabci");
        due("fault(0), the last of 47", x.fault(0), 46);
        due("fault(1), the last of 12", x.fault(1), 11);
    }

    private static void felon() {
        checks.says(6, "Its kind (what = 0: 0 f, 1 c, 2 r, 3 d), how STRONG (1), GOODS (2), whether it is GUILTY (3: 1, 0), FELLOW (4; as told; NONE)");
        String felons = "f00g0;c99i7;r09g.;d90i6;f00i.;c00g1;r99i.;d99g7";
        int[][] wanted = {
            {0, 0, 0, 1, 0}, {1, 9, 9, 0, 7}, {2, 0, 9, 1, -1}, {3, 9, 0, 0, 6},
            {0, 0, 0, 0, -1}, {1, 0, 0, 1, 1}, {2, 9, 9, 0, -1}, {3, 9, 9, 1, 7},
        };
        ApproverWins x = of(felons, "");
        for (int felon = 0; felon < 8; felon++) {
            for (int what = 0; what < 5; what++) {
                due("felon(" + felon + ", " + what + ")", x.felon(felon, what), wanted[felon][what]);
            }
        }
        due("felon(0, 4), a FELLOW that is not there", of("f00g7", "").felon(0, 4), 7);
    }

    private static void name() {
        checks.says(7, "Who is the i-th of THE NAMES (0 to 11); NONE.");
        for (int names = 0; names <= 12; names++) {
            ApproverWins x = of("", "hgfedcbahgfe".substring(0, names));
            for (int i = 0; i < 12; i++) {
                due("name(" + i + ") of " + names, x.name(i), i < names ? 7 - i % 8 : -1);
            }
        }
        due("name(0) with a FAULT", of("", "ai").name(0), -1);
    }

    private static void set() {
        checks.says(8, "How STRONG he is (what = 0), WINS (1), BRIBE (2): what it was.");
        ApproverWins x = new ApproverWins();
        int[][] calls = {{0, 0, 5}, {1, 1, 5}, {2, 0, 5}, {0, 9, 0}, {1, 8, 1}, {2, 9, 0}, {0, 9, 9}, {1, 8, 8}, {2, 9, 9}, {0, 0, 9}};
        for (int[] call : calls) {
            due("set(" + call[0] + ", " + call[1] + ")", x.set(call[0], call[1]), call[2]);
        }
    }

    // ---- names

    private static void comes() {
        checks.says(9, "What comes of a NAME that there is (what = 0)");
        ApproverWins x = of("f50g.", "aaaaaaaaaaaa", 5, 8, 5);
        due("comes(0, 0) of 12", x.comes(0, 0), 3);
        due("comes(11, 0) of 12", x.comes(11, 0), 0);
        due("comes(11, 1) of 12", x.comes(11, 1), 16);
        due("comes(0, 0) of none", of("f50g.", "").comes(0, 0), -2);
        due("comes(0, 0) with a FAULT", of("f50g.", "a?").comes(0, 0), -2);
        due("comes(0, 0) with a FAULT of the FELONS", of("f50g.?", "a").comes(0, 0), 0);
        // What comes of a NAME is told as if he was alive, though he is surely dead ahead of it.
        x = of("f90g.;f50g.;c00g.", "abc", 0, 3, 5);
        due("comes(0, 1), surely dead", x.comes(0, 1), 0);
        due("comes(1, 0) behind that", x.comes(1, 0), 3);
        due("comes(1, 1) behind that", x.comes(1, 1), 3);
        due("comes(2, 0) behind that", x.comes(2, 0), 1);
    }

    private static void behind() {
        checks.says(10, "How STRONG he is (what = 0), how many WINS he has (1) behind so many NAMES (0 to all).");
        ApproverWins x = of("", "", 9, 8, 5);
        due("behind(0, 0), no NAMES", x.behind(0, 0), 9);
        due("behind(0, 1), no NAMES", x.behind(0, 1), 0);
        due("behind(1, 0), no NAMES", x.behind(1, 0), -2);
        x = of(Checks.EIGHT, "abcdefghabcd", 9, 8, 5);
        due("behind(8, 0)", x.behind(8, 0), 1);
        due("behind(12, 0), all of 12", x.behind(12, 0), 1);
        due("behind(12, 1), all of 12", x.behind(12, 1), 8);
        due("behind(13, 0)", x.behind(13, 0), -2);
        x = of("f90g.;c00g.", "ab", 0, 3, 5);
        due("behind(2, 1), if he is alive", x.behind(2, 1), 2);
    }

    private static void alive() {
        checks.says(11, "The chance that he is alive behind so many NAMES: above, below.");
        ApproverWins x = of("", "");
        checks.fraction("alive(0), no NAMES", x.alive(0, 0), x.alive(0, 1), 1, 1);
        x = of(Checks.EIGHT.replace("f00", "f70"), "abcdefghabcd", 0, 8, 5);
        for (int names = 0; names <= 12; names++) {
            checks.fraction("alive(" + names + ")", x.alive(names, 0), x.alive(names, 1), 1, 1L << 4 * Math.min(8, names));
        }
        x = of("f90g.;f00g.;c00g.", "abc", 0, 3, 5);
        for (int names = 1; names <= 3; names++) {
            checks.fraction("alive(" + names + "), surely dead", x.alive(names, 0), x.alive(names, 1), 0, 1);
        }
        x = of(Checks.EIGHT_CONFESS, "abcdefghabcd", 0, 8, 5);
        checks.fraction("alive(12), surely alive", x.alive(12, 0), x.alive(12, 1), 1, 1);
    }

    private static void lives() {
        checks.says(12, "LIVES: above, below.");
        ApproverWins x = of("", "");
        checks.fraction("lives, no NAMES", x.lives(0), x.lives(1), 0, 1);
        for (int wins = 1; wins <= 8; wins++) {
            x = of(Checks.EIGHT_CONFESS, "abcdefgh".substring(0, wins), 5, wins, 5);
            checks.fraction("lives by just " + wins, x.lives(0), x.lives(1), 1, 1);
            x.undo(1);
            checks.fraction("lives by one less than " + wins, x.lives(0), x.lives(1), 0, 1);
        }
        x = of("f50g.;c00g.", "ab", 5, 2, 5);
        checks.fraction("lives", x.lives(0), x.lives(1), 1, 2);
        x.set(1, 3);
        checks.fraction("lives: alive, but not all WINS", x.lives(0), x.lives(1), 0, 1);
    }

    private static void harm() {
        checks.says(13, "HARM: above, below.");
        ApproverWins x = of("", "");
        checks.fraction("harm, no NAMES", x.harm(0), x.harm(1), 0, 1);
        x = of("c00g.;r09i.;d00i.;f00g.;f00i.;f00i.", "abcdhff", 5, 3, 5);
        checks.fraction("harm, innocents behind the WINS or not FIGHTING", x.harm(0), x.harm(1), 0, 1);
        x = of("c00i.;r04i.", "ab", 9, 8, 5);
        checks.fraction("harm of two that FIGHT, surely: whole", x.harm(0), x.harm(1), 2, 1);
        x = of(Checks.EIGHT.replace('g', 'i'), "abcdefgh", 9, 8, 5);
        // Strong 9 to 2: 16, 16, 15 .. 10 sixteenths.
        long sum = 0;
        long chance = 1;
        int[] sixteenths = {16, 16, 15, 14, 13, 12, 11, 10};
        for (int i = 0; i < 8; i++) {
            chance *= sixteenths[i];
            sum += chance << 4 * (7 - i);
        }
        long common = sum & -sum;
        checks.fraction("harm of 8", x.harm(0), x.harm(1), sum / common, (1L << 32) / common);
        x = of("f90i.;f00i.", "ab", 0, 8, 5);
        checks.fraction("harm, he is surely dead ahead of it", x.harm(0), x.harm(1), 0, 1);
    }

    private static void worst() {
        checks.says(14, "WORST; NONE.");
        due("worst(), none", of(Checks.EIGHT, "").worst(), -1);
        due("worst(), one", of("", "a").worst(), 0);
        due("worst(), the last of 12", of("c00g.;f90g.", "aaaaaaaaaaab", 5, 8, 5).worst(), 11);
    }

    private static void fate() {
        checks.says(15, "FATE; NONE. BAD: no such FELON.");
        ApproverWins x = of(Checks.EIGHT, "hhhhhhhhhhha", 5, 2, 5);
        due("fate(7), the last", x.fate(7), 3);
        due("fate(0), named last of 12", x.fate(0), 3);
        due("fate(1), not named", x.fate(1), -1);
        due("fate(8)", x.fate(8), -2);
        x.set(1, 1);
        due("fate(0), behind the WINS", x.fate(0), 0);
        x.undo(0);
        due("fate(7), a FAULT: no such FELON", x.fate(7), -2);
    }

    // ---- plans

    private static void order() {
        checks.says(16, "ORDER: how many (i = NONE), the i-th (0 to 7; NONE); NONE.");
        for (int wins = 1; wins <= 8; wins++) {
            ApproverWins x = of(Checks.EIGHT_CONFESS, "", 5, wins, 5);
            due("order(NONE) by " + wins, x.order(-1), wins);
            for (int i = 0; i < 8; i++) {
                due("order(" + i + ") by " + wins, x.order(i), i < wins ? i : -1);
            }
        }
        ApproverWins x = of("", "");
        for (int i = -1; i < 8; i++) {
            due("order(" + i + "), no FELONS", x.order(i), -1);
        }
        x = of("d00g.;d00g.;d00g.;d00g.;d00g.;d00g.;d00g.;c00g.", "", 5, 1, 5);
        due("order(NONE), seven dead ahead", x.order(-1), 8);
        due("order(7), seven dead ahead", x.order(7), 7);
    }

    private static void orderAnew() {
        checks.says(16, "(0 to 7; NONE); NONE.");
        ApproverWins x = of("c00g.", "", 5, 1, 5);
        due("order(NONE)", x.order(-1), 1);
        x.set(1, 2);
        due("order(NONE), one WIN too many now", x.order(-1), -1);
        due("order(0), one WIN too many now", x.order(0), -1);
        x.set(1, 1);
        due("order(NONE), not too many again", x.order(-1), 1);
        Checks.put(x, 0, "d00g.");
        due("order(NONE), dead now", x.order(-1), -1);
        Checks.put(x, 0, "r05g.");
        due("order(NONE), rich now", x.order(-1), 1);
        x.set(0, 0);
        Checks.put(x, 0, "r95g.");
        due("order(NONE), he would lose, but it SETTLES", x.order(-1), 1);
        x.set(2, 6);
        due("order(NONE), by a greater BRIBE", x.order(-1), -1);
        x.set(0, 2);
        due("order(NONE), by 1 sixteenth", x.order(-1), 1);
        x.undo(0);
        due("order(NONE), not ended", x.order(-1), -1);
        x.type(0, '.');
        due("order(NONE), ended again", x.order(-1), 1);
        x.wipe(0);
        due("order(NONE), wiped", x.order(-1), -1);
        x = of(Checks.EIGHT.replace("f00", "f70"), "", 0, 8, 5);
        due("order(NONE), the least chance there is", x.order(-1), 8);
        due("order(7), the least chance there is", x.order(7), 7);
    }

    private static void best() {
        checks.says(17, "The chance by ORDER: above, below (0 by 1: NONE).");
        ApproverWins x = of("", "", 5, 1, 5);
        checks.fraction("best, no FELONS", x.best(0), x.best(1), 0, 1);
        x = of("d00g.;d00g.", "ab", 5, 1, 5);
        checks.fraction("best, all dead", x.best(0), x.best(1), 0, 1);
        x = of("f90g.", "a", 0, 1, 5);
        checks.fraction("best, chance 0", x.best(0), x.best(1), 0, 1);
        x = of("c00g.", "", 5, 2, 5);
        checks.fraction("best, one WIN too many", x.best(0), x.best(1), 0, 1);
        x = of(Checks.EIGHT_CONFESS, "", 5, 8, 5);
        checks.fraction("best of 8 confessions", x.best(0), x.best(1), 1, 1);
    }

    private static void price() {
        checks.says(18, "PRICE.");
        ApproverWins x = of("r99g.;f00g.", "ab", 5, 2, 9);
        due("price()", x.price(), 0);
        due("set(2, 9): the BRIBE stays as it was", x.set(2, 9), 9);
        due("price(), no NAMES", of("", "").price(), 0);
    }

    private static void rule() {
        checks.says(19, "RULE; NONE.");
        ApproverWins x = of("f90g.", "a", 0, 3, 5);
        due("rule(0), any will do", x.rule(0), 8);
        due("rule(1), none", x.rule(1), -1);
        x = of("f00g.", "a", 9, 3, 5);
        due("rule(16), just 16", x.rule(16), 1);
        x.set(0, 7);
        due("rule(15), just 15", x.rule(15), 1);
        due("rule(16), 15 is too few", x.rule(16), -1);
        due("set(1, 3): the WINS stay as they were", x.set(1, 3), 3);
        x = of(Checks.EIGHT_CONFESS, "abcdefgh", 5, 1, 5);
        due("rule(16), all 8", x.rule(16), 8);
    }

    private static void chain() {
        checks.says(20, "CHAIN, as bits.");
        ApproverWins x = of("f00g7;f00g1;f00i0;f00g2;f00g5;f00g4;f00g.;f00i7", "");
        int[] wanted = {129, 2, 4, 12, 48, 48, 64, 128};
        for (int felon = 0; felon < 8; felon++) {
            due("chain(" + felon + ")", x.chain(felon), wanted[felon]);
        }
    }

    // ---- seen, gaols

    private static void seen() {
        checks.says(21, "SEEN more: how many.");
        ApproverWins x = new ApproverWins();
        for (int i = 1; i <= 8; i++) {
            due("seen as " + i + ", there are no FELONS", x.seen(8 - i, i % 5), i);
        }
        due("seen as 9", x.seen(0, 0), -4);
        due("count(7), full", x.count(7), 8);
        x.wipe(0);
        x.wipe(1);
        due("count(7), SEEN stay if texts are wiped", x.count(7), 8);
    }

    private static void forget() {
        checks.says(22, "All SEEN are forgotten: how many.");
        ApproverWins x = of("f00g.", "a");
        for (int many = 0; many <= 8; many++) {
            for (int i = 0; i < many; i++) {
                x.seen(0, 4);
            }
            due("bribes() of " + many, x.bribes(), many == 0 ? 1023 : 0);
            due("forget() of " + many, x.forget(), many);
            due("forget() again", x.forget(), 0);
            due("bribes() of none", x.bribes(), 1023);
        }
    }

    private static void readAsManyAsAreWhole() {
        checks.says(23, "its items, two for each, as many as are whole");
        for (int form = 0; form < 3; form++) {
            for (int items = 0; items <= 60; items++) {
                ApproverWins x = new ApproverWins();
                x.sheet(1, form, items);
                int wanted = Math.min(8, items / 2);
                due("read of " + items + " items", x.read(1), wanted);
                due("count(7) then", x.count(7), wanted);
            }
        }
        ApproverWins x = of("f00g.", "a");
        x.sheet(0, 0, 3);
        x.lay(0, 0, 1, 3);
        x.lay(0, 0, 2, 99);
        due("read, the third is not looked at", x.read(0), 1);
        due("kinds(0): a FELON comes first, then its FATE", x.kinds(0), 5);
        due("count(8), no FINDING", x.count(8), 0);
    }

    private static void readAsLongAsEachMayBe() {
        checks.says(23, "as long as each may be: how many.");
        for (int wrong : new int[] {-1, 5, 127, -128}) {
            for (int place = 0; place < 16; place++) {
                boolean mayBe = wrong == 5 && place % 2 == 0;
                ApproverWins x = new ApproverWins();
                x.sheet(3, 0, 16);
                x.lay(3, 0, place, wrong);
                int wanted = mayBe ? 8 : place / 2;
                due("read with " + wrong + " at " + place, x.read(3), wanted);
                due("count(7) then", x.count(7), wanted);
            }
        }
        for (int have = 0; have <= 8; have++) {
            ApproverWins x = new ApproverWins();
            for (int i = 0; i < have; i++) {
                x.seen(0, 0);
            }
            x.sheet(0, 2, 8);
            due("read behind " + have, x.read(0), Math.min(4, 8 - have));
            due("count(7) behind " + have, x.count(7), Math.min(8, have + 4));
        }
        ApproverWins x = new ApproverWins();
        x.sheet(0, 2, 4);
        x.lay(0, 2, 0, 7);
        x.lay(0, 2, 1, 4);
        x.lay(0, 2, 2, 8);
        due("read, 7 and 4 may be, 8 may not", x.read(0), 1);
        x.lay(0, 2, 0, 256);
        due("read, 256 may not", x.read(0), 0);
    }

    private static void bribes() {
        checks.says(24, "BRIBES, as bits.");
        ApproverWins x = of("r00g.;r09g.", "ab", 5, 8, 7);
        due("bribes(), nothing SEEN", x.bribes(), 1023);
        x.seen(0, 2);
        due("bribes(), the first alone", x.bribes(), 1);
        x.forget();
        x.seen(0, 3);
        due("bribes(), all but the first", x.bribes(), 1022);
        x.forget();
        x.seen(1, 2);
        due("bribes(), to the last", x.bribes(), 1023);
        x.seen(1, 3);
        due("bribes(), none", x.bribes(), 0);
        due("set(2, 7): the BRIBE stays as it was", x.set(2, 7), 7);
        due("bribes(), no FELONS, nothing SEEN", of("", "").bribes(), 1023);
    }

    private static void kinds() {
        checks.says(25, "KINDS, as bits.");
        ApproverWins x = of(Checks.EIGHT.replace("f00", "f05"), "abcdefgh", 5, 8, 5);
        for (int felon = 0; felon < 8; felon++) {
            due("kinds(" + felon + "), nothing SEEN", x.kinds(felon), 15);
            x.seen(felon, 4);
            due("kinds(" + felon + "), dead", x.kinds(felon), 8);
            due("felon(" + felon + ", 0) stays", x.felon(felon, 0), 0);
            x.forget();
        }
        x = of("f00g.;d99i.", "ab", 5, 1, 5);
        x.seen(1, 0);
        due("kinds(0), VOID behind his WINS: not d", x.kinds(0), 7);
        due("kinds(1), VOID as any kind", x.kinds(1), 15);
    }

    private static void ask() {
        checks.says(26, "ASK; NONE.");
        due("ask(), no FELONS", of("", "").ask(), -1);
        due("ask(), one FELON", of("d00g.", "").ask(), 0);
        due("ask(), the last of 8", of(Checks.EIGHT.substring(0, 42) + "r04g.", "h").ask(), 7);
        ApproverWins x = of("r90g.;r94g.", "ab", 5, 8, 7);
        due("ask(), 5 and 5 ahead of 1 and 9", x.ask(), 1);
        due("set(2, 7): the BRIBE stays as it was", x.set(2, 7), 7);
    }

    private static void gaols() {
        checks.says(27, "GAOLS: how many times he LIVES (what = 0), how many innocents lose (1).");
        ApproverWins x = of("f00i.;f00g.;f00i.;c00i.;c00g.;r09i.;d00i.", "abcdefg", 9, 7, 5);
        // 16, 16, 15, 14 sixteenths; a confession, a settlement, a dead one: six WINS of seven.
        due("gaols, not all WINS", x.gaols(7, 99, 0), 0);
        x.set(1, 2);
        due("gaols, sure", x.gaols(Checks.LOW, 99, 0), 99);
        due("gaols, sure: innocents", x.gaols(Checks.LOW, 99, 1), 99);
        due("gaols, sure, once", x.gaols(Checks.HIGH, 1, 0), 1);
        due("gaols, sure, once: innocents", x.gaols(Checks.HIGH, 1, 1), 1);
        due("gaols does not go on from the last SEED", x.gaols(7, 30, 1) - x.gaols(7, 30, 1), 0);
        // Innocents that lose ahead of his death count, though he does not LIVE.
        x = of("f00i.;f90i.;f90i.;f90i.;f90i.;f90i.;f90i.;f90i.", "abcdefgh", 8, 8, 5);
        due("sixteenths of the last", x.comes(7, 1), 0);
        due("gaols, dead at the last", x.gaols(5, 99, 0), 0);
        due("gaols, dead at the last: 99 of the first at least", x.gaols(5, 99, 1) >= 99 ? 1 : 0, 1);
    }

    // ---- sheets

    private static void sheet() {
        checks.says(28, "A SHEET is a new row of a FORM with n items: n.");
        ApproverWins x = new ApproverWins();
        for (int n : new int[] {0, 1, 59, 60}) {
            due("sheet(0, 1, " + n + ")", x.sheet(0, 1, n), n);
            due("item " + n, x.lay(0, 1, n, 1), -12);
            due("item " + (n - 1), x.lay(0, 1, n - 1, 1), n == 0 ? -12 : 1);
        }
        x.sheet(0, 2, 60);
        x.lay(0, 2, 59, -1);
        due("sheet, shorter", x.sheet(0, 2, 1), 1);
        due("sheet, longer again", x.sheet(0, 2, 60), 60);
        due("its last item is new", x.get(0, 2, 59), 0);
        due("another FORM", x.sheet(0, 0, 60), 60);
        due("get as of the FORM that it had", x.get(0, 2, 0), Checks.LOW);
        due("count(8) of that", x.count(8), 3);
    }

    private static void lose() {
        checks.says(29, "It is LOST: how many items it had.");
        ApproverWins x = new ApproverWins();
        for (int n : new int[] {0, 1, 60}) {
            x.sheet(3, 2, n);
            due("lose(3) of " + n, x.lose(3), n);
            due("lose(3), LOST", x.lose(3), -11);
            due("lay, LOST", x.lay(3, 2, 0, 1), -11);
        }
        x.sheet(2, 0, 5);
        x.sheet(3, 0, 5);
        x.lose(3);
        due("lose(2), another stays", x.lose(2), 5);
    }

    private static void lay() {
        checks.says(30, "Item i, treated as of a FORM, becomes v (the lowest bits that it has): 1.");
        int[] values = {
            0, 1, -1, 127, 128, 129, -127, -128, -129, 255, 256, 257, -255, -256, -257, 32767, 32768, -32768, -32769,
            65535, 65536, -65536, Checks.HIGH, Checks.LOW, Checks.HIGH - 1, Checks.LOW + 1,
        };
        ApproverWins x = new ApproverWins();
        for (int form = 0; form < 3; form++) {
            x.sheet(form, form, 60);
            int bits = 8 << form;
            for (int v : values) {
                due("lay of " + v, x.lay(form, form, 59, v), 1);
                long lowest = Long.remainderUnsigned(v, 1L << bits);
                long kept = lowest >= 1L << bits - 1 ? lowest - (1L << bits) : lowest;
                due("get of " + v + ", " + bits + " bits", x.get(form, form, 59), kept);
                due("the item ahead stays", x.get(form, form, 58), 0);
            }
        }
    }

    private static void get() {
        checks.says(31, "Item i of it.");
        ApproverWins x = new ApproverWins();
        x.sheet(0, 2, 60);
        x.lay(0, 2, 0, 5);
        x.lay(0, 2, 59, Checks.LOW);
        due("get, the first", x.get(0, 2, 0), 5);
        due("get, the last: it may be the least int itself", x.get(0, 2, 59), Checks.LOW);
        due("count(8), that was no FINDING", x.count(8), 0);
        due("get, one more", x.get(0, 2, 60), Checks.LOW);
        due("count(8), that was one", x.count(8), 2);
        x.sheet(1, 0, 0);
        due("get, no items", x.get(1, 0, 0), Checks.LOW);
    }

    private static void fill(ApproverWins x, int s, int n) {
        x.sheet(s, 0, n);
        for (int i = 0; i < n; i++) {
            x.lay(s, 0, i, i + 1);
        }
    }

    private static void copy() {
        checks.says(32, "n items of SHEET s, from i on, come to SHEET t (perhaps s, as they were), from j on: 1.");
        ApproverWins x = new ApproverWins();
        fill(x, 0, 60);
        x.sheet(1, 0, 60);
        due("copy, all of 60", x.copy(0, 0, 1, 0, 60), 1);
        for (int i = 0; i < 60; i++) {
            due("item " + i, x.get(1, 0, i), i + 1);
        }
        due("copy, none", x.copy(0, 0, 1, 0, 0), 1);
        due("copy, none from behind the last", x.copy(0, 60, 1, 60, 0), 1);
        due("copy, the last to the first", x.copy(0, 59, 1, 0, 1), 1);
        due("the first", x.get(1, 0, 0), 60);
        due("the second stays", x.get(1, 0, 1), 2);
        due("copy, the first to the last", x.copy(0, 0, 1, 59, 1), 1);
        due("the last", x.get(1, 0, 59), 1);
        due("the last but one stays", x.get(1, 0, 58), 59);
        x.sheet(2, 0, 0);
        due("copy, none of none", x.copy(2, 0, 2, 0, 0), 1);
        due("copy, none of none to 60", x.copy(2, 0, 1, 60, 0), 1);
        due("copy, one of none", x.copy(2, 0, 1, 0, 1), -12);
        due("copy, one to none", x.copy(0, 0, 2, 0, 1), -12);
    }

    private static void copyOntoItself() {
        checks.says(32, "(perhaps s, as they were)");
        for (int shift = -3; shift <= 3; shift++) {
            ApproverWins x = new ApproverWins();
            fill(x, 0, 12);
            due("copy by " + shift, x.copy(0, 4, 0, 4 + shift, 5), 1);
            for (int i = 0; i < 12; i++) {
                boolean isOfIt = i >= 4 + shift && i < 9 + shift;
                due("item " + i + " by " + shift, x.get(0, 0, i), isOfIt ? i - shift + 1 : i + 1);
            }
        }
    }

    private static void write() {
        checks.says(33, "What comes of NAMES 0 on comes to a SHEET from item 0 on, as many as there are items and NAMES: how many.");
        for (int names : new int[] {0, 1, 11, 12}) {
            for (int items : new int[] {0, 1, 11, 12, 13, 60}) {
                ApproverWins x = of("f00g.;c00g.;r09g.;d00g.", "dcbabcdefgha".substring(0, names), 5, 8, 5);
                int[] comes = {4, 2, 1, 3, 0, 0, 0, 0, 0, 0, 0, 0};
                x.sheet(2, 1, items);
                for (int i = 0; i < items; i++) {
                    x.lay(2, 1, i, 99);
                }
                int wanted = Math.min(names, items);
                due("write, " + names + " NAMES, " + items + " items", x.write(2), wanted);
                for (int i = 0; i < items; i++) {
                    due("item " + i, x.get(2, 1, i), i < wanted ? comes[i] : 99);
                }
            }
        }
        ApproverWins x = of("f00g.", "a?");
        x.sheet(0, 0, 3);
        due("write, NAMES with a FAULT", x.write(0), 0);
    }

    private static void count() {
        checks.says(34, "0 FELONS, 1 NAMES, 2, 3 bytes of texts, 4 FIGHTS among THE NAMES, 5 WINS that he has behind all, "
            + "if he is alive, 6 FELONS of whom something comes (not VOID), 7 SEEN");
        ApproverWins x = of(Checks.EIGHT, "abcdefghabcd", 5, 8, 5);
        for (int i = 0; i < 8; i++) {
            x.seen(0, 3);
        }
        countsDue(x, "all full", 8, 12, 47, 12, 8, 8, 8, 8);
        x.set(1, 1);
        countsDue(x, "by 1 WIN", 8, 12, 47, 12, 1, 1, 1, 8);
        x.undo(0);
        countsDue(x, "FELONS with a FAULT", 0, 12, 46, 12, 0, 0, 0, 8);
        x.undo(1);
        x.type(1, '?');
        countsDue(x, "both with a FAULT", 0, 0, 46, 12, 0, 0, 0, 8);
        x.wipe(0);
        x.wipe(1);
        x.forget();
        countsDue(x, "all empty", 0, 0, 0, 0, 0, 0, 0, 0);
        countsDue(of("f90g.;f00g.", "ab", 0, 8, 5), "surely dead", 2, 2, 11, 2, 2, 2, 2, 0);
        countsDue(of("d00g.;f00g.", "aha", 5, 8, 5), "IDLE and VOID", 2, 3, 11, 3, 0, 0, 1, 0);
    }

    private static void countsDue(ApproverWins x, String told, int... wanted) {
        for (int what = 0; what < wanted.length; what++) {
            due("count(" + what + "), " + told, x.count(what), wanted[what]);
        }
    }

    private static void countOfFindings() {
        checks.says(34, "8 the number of the latest FINDING (0 before any)");
        ApproverWins x = new ApproverWins();
        x.type(2, 0);
        x.undo(0);
        x.sheet(0, 0, 61);
        x.get(4, 0, 0);
        for (int i = 0; i < 13; i++) {
            x.type(1, 'a');
        }
        due("count(8), BAD, NOT and FULL are none", x.count(8), 0);
        x.get(0, 0, 0);
        due("count(8), by get", x.count(8), 1);
        x.sheet(0, 0, -1);
        due("count(8), by sheet", x.count(8), 5);
        x.sheet(0, 0, 2);
        x.lay(0, 0, 0, 3);
        x.get(0, 0, 0);
        x.copy(0, 0, 0, 1, 1);
        x.write(0);
        x.read(0);
        x.lose(0);
        x.digest();
        due("count(8), good calls leave it", x.count(8), 5);
        x.sheet(0, 0, 61);
        x.undo(2);
        due("count(8), BAD leaves it", x.count(8), 5);
        due("count(8) of another object", new ApproverWins().count(8), 0);
    }

    // ---- digest

    private static final BigInteger WHOLE = BigInteger.ONE.shiftLeft(64);

    private static BigInteger more(BigInteger h, long... each) {
        BigInteger sum = h;
        for (long one : each) {
            sum = sum.multiply(BigInteger.valueOf(31)).add(BigInteger.valueOf(one));
        }
        return sum;
    }

    /** The digest by numbers that do not wrap by themselves. */
    private static long digestByCalls(ApproverWins x) {
        BigInteger h = BigInteger.valueOf(17);
        for (int what = 0; what < 8; what++) {
            h = more(h, x.count(what));
        }
        h = more(h, x.fault(0), x.fault(1));
        for (int f = 0; f < x.count(0); f++) {
            h = more(h, x.felon(f, 0), x.felon(f, 1), x.felon(f, 2), x.felon(f, 3), x.felon(f, 4), x.fate(f), x.chain(f), x.kinds(f));
        }
        for (int i = 0; i < x.count(1); i++) {
            h = more(h, x.name(i), x.comes(i, 0), x.comes(i, 1));
        }
        for (int i = 0; i <= x.count(1); i++) {
            h = more(h, x.behind(i, 0), x.behind(i, 1), x.alive(i, 0), x.alive(i, 1));
        }
        h = more(h, x.lives(0), x.lives(1), x.harm(0), x.harm(1), x.worst(), x.order(-1), x.order(0), x.best(0), x.best(1));
        h = more(h, x.price(), x.rule(4), x.rule(9), x.bribes(), x.ask(), x.gaols(7, 30, 0), x.gaols(7, 30, 1));
        return h.mod(WHOLE).longValue();
    }

    private static void digest() {
        checks.says(35, "as longs that wrap.");
        ApproverWins x = new ApproverWins();
        due("digest(), new", x.digest(), digestByCalls(x));
        x = of(Checks.EIGHT.replace("f00", "f70"), "abcdefghabcd", 0, 8, 5);
        due("digest(), full", x.digest(), digestByCalls(x));
        x.seen(0, 4);
        due("digest(), nothing comes out so", x.digest(), digestByCalls(x));
        x.undo(0);
        due("digest(), FELONS with a FAULT", x.digest(), digestByCalls(x));
        x = of("r45i1;c00g2;f30i.;f11i0", "dcbahd?", 6, 3, 4);
        due("digest(), NAMES with a FAULT", x.digest(), digestByCalls(x));
        x.undo(1);
        due("digest(), ordinary", x.digest(), digestByCalls(x));
        for (int strong = 0; strong <= 9; strong++) {
            // By 0 to 9, and by 3 to 12 sixteenths: rule() and gaols() differ among these.
            x = of("f80i.;f50i.", "a", strong, 1, 5);
            due("digest(), by " + strong + " sixteenths", x.digest(), digestByCalls(x));
            Checks.put(x, 1, "b");
            due("digest(), by 3 more than " + strong, x.digest(), digestByCalls(x));
        }
        long before = x.digest();
        x.sheet(0, 0, 60);
        x.get(0, 1, 0);
        due("digest(), SHEETS and FINDINGS are not in it", x.digest(), before);
    }
}
