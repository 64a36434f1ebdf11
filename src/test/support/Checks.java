import java.io.IOException;
import java.nio.file.Files;
import java.nio.file.Path;
import java.util.HashSet;
import java.util.Set;

/** Checks, each under the words of the document that it is about; the words are looked up there. */
final class Checks {
    static final long LONG_BAD = Long.MIN_VALUE + 2;
    static final int LOW = Integer.MIN_VALUE, HIGH = Integer.MAX_VALUE;
    static final int NONE = -1, BAD = -2, NOT = -3, FULL = -4;
    static final int NULL = -11, INDEX = -12, CAST = -13, STORE = -14, SIZE = -15;
    static final String EIGHT = "f00g.;f00g.;f00g.;f00g.;f00g.;f00g.;f00g.;f00g.";
    static final String EIGHT_CONFESS = EIGHT.replace('f', 'c');

    private static final int PROMISES = 35;

    private final String document = documentOf(Path.of("../shared/DOC.md"));
    private final boolean[] quoted = new boolean[PROMISES + 1];
    private String words = "";
    private int checksOfWords = 1;
    private final Set<String> sentences = new HashSet<>();
    private int wrong = 0;

    private static String documentOf(Path path) {
        try {
            return Files.readString(path).replaceAll("\\s+", " ");
        } catch (IOException e) {
            System.out.println(path + " can't be read: the words quoted are not looked up");
            return "";
        }
    }

    /** The next checks are about these words of a promise (0: of the terms). */
    void says(int promise, String quote) {
        if (checksOfWords == 0) {
            fail("nothing was checked");
        }
        words = (promise == 0 ? "terms" : "promise " + promise) + ", \"" + quote + "\"";
        quoted[promise] = true;
        checksOfWords = 0;
        sentences.add(words);
        if (!document.isEmpty() && !sectionOf(promise).contains(quote)) {
            fail("these words are not there");
        }
    }

    private String sectionOf(int promise) {
        int from = promise == 0 ? 0 : document.indexOf("## Promise " + promise + ":");
        int to = document.indexOf(promise == PROMISES ? "## Not promised" : "## Promise " + (promise + 1) + ":");
        return from >= 0 && to >= from ? document.substring(from, to) : "";
    }

    void due(String call, long got, long want) {
        checksOfWords++;
        if (got != want) {
            fail(call + " answered " + got + ", due is " + want);
        }
    }

    void due(String call, String got, String want) {
        checksOfWords++;
        if (!got.equals(want)) {
            fail(call + " is " + got + ", due is " + want);
        }
    }

    void fraction(String call, long above, long below, long wantAbove, long wantBelow) {
        due(call + ", above", above, wantAbove);
        due(call + ", below", below, wantBelow);
    }

    private void fail(String told) {
        wrong++;
        System.out.println(words + ": " + told);
    }

    void allPromisesAreQuoted() {
        for (int promise = 1; promise <= PROMISES; promise++) {
            if (!quoted[promise]) {
                words = "promise " + promise;
                fail("has no test");
            }
        }
    }

    void end() {
        if (checksOfWords == 0) {
            fail("nothing was checked");
        }
        System.out.println(wrong == 0 ? sentences.size() + " sentences hold" : wrong + " answers are not as due");
        if (wrong != 0) {
            System.exit(1);
        }
    }

    static void put(ApproverWins x, int text, String bytes) {
        x.wipe(text);
        for (int i = 0; i < bytes.length(); i++) {
            x.type(text, bytes.charAt(i));
        }
    }

    static ApproverWins of(String felons, String names) {
        ApproverWins x = new ApproverWins();
        put(x, 0, felons);
        put(x, 1, names);
        return x;
    }

    static ApproverWins of(String felons, String names, int strong, int wins, int bribe) {
        ApproverWins x = of(felons, names);
        x.set(0, strong);
        x.set(1, wins);
        x.set(2, bribe);
        return x;
    }
}
