/** Counts the answers that are not the ones that are due, and ends a test by that count. */
final class Dues {
    private int wrong;
    private int tested;

    void due(String call, long got, long want) {
        tested++;
        if (got != want) {
            wrong++;
            System.out.println(call + " answered " + got + ", due is " + want);
        }
    }

    void due(String call, boolean got, boolean want) {
        due(call, got ? 1 : 0, want ? 1 : 0);
    }

    /** Every one of these answers is the same one. */
    void all(String call, long want, long... got) {
        for (int i = 0; i < got.length; i++) {
            due(call + " #" + i, got[i], want);
        }
    }

    void end() {
        System.out.println(tested + " answers, " + wrong + " of them not as due");
        if (wrong != 0 || tested == 0) {
            System.exit(1);
        }
    }
}
