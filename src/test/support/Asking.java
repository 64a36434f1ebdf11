/** All that an object can be asked for without changing it. */
final class Asking {
    private Asking() {
    }

    /** What it tells of FELONS, NAMES, plans and SEEN, but not of the bytes of the texts. */
    static String all(ApproverWins x) {
        StringBuilder told = new StringBuilder();
        for (int what : new int[] {0, 1, 4, 5, 6, 7}) {
            told.append(x.count(what)).append(' ');
        }
        for (int felon = 0; felon < 8; felon++) {
            for (int what = 0; what < 5; what++) {
                told.append(x.felon(felon, what)).append(' ');
            }
            told.append(x.fate(felon)).append(' ').append(x.chain(felon)).append(' ').append(x.kinds(felon)).append(' ');
        }
        return told.append(names(x)).append(plans(x)).toString();
    }

    private static StringBuilder names(ApproverWins x) {
        StringBuilder told = new StringBuilder();
        for (int i = 0; i < 12; i++) {
            told.append(x.name(i)).append(' ').append(x.comes(i, 0)).append(' ').append(x.comes(i, 1)).append(' ');
        }
        for (int i = 0; i <= 12; i++) {
            told.append(x.behind(i, 0)).append(' ').append(x.behind(i, 1)).append(' ');
            told.append(x.alive(i, 0)).append('/').append(x.alive(i, 1)).append(' ');
        }
        told.append(x.lives(0)).append('/').append(x.lives(1)).append(' ');
        return told.append(x.harm(0)).append('/').append(x.harm(1)).append(' ').append(x.worst()).append(' ');
    }

    private static StringBuilder plans(ApproverWins x) {
        StringBuilder told = new StringBuilder();
        for (int i = -1; i < 8; i++) {
            told.append(x.order(i)).append(' ');
        }
        told.append(x.best(0)).append('/').append(x.best(1)).append(' ').append(x.price()).append(' ');
        for (int c = 0; c <= 16; c++) {
            told.append(x.rule(c)).append(' ');
        }
        told.append(x.bribes()).append(' ').append(x.ask()).append(' ');
        return told.append(x.gaols(7, 30, 0)).append(' ').append(x.gaols(7, 30, 1));
    }
}
