/** Counts the answers that are not the ones that are due, and ends a test by that count. */
final class Dues {
    /** Far above what any test needs, so that a call that never ends lets its test fail. */
    private static final int SECONDS = 300;

    private int wrong;
    private int tested;

    Dues() {
        Thread watch = new Thread(Dues::endLate);
        watch.setDaemon(true);
        watch.start();
    }

    private static void endLate() {
        try {
            Thread.sleep(1000L * SECONDS);
        } catch (InterruptedException e) {
            return;
        }
        System.out.println("not done after " + SECONDS + " seconds");
        Runtime.getRuntime().halt(1);
    }

    void due(String call, long got, long want) {
        tested++;
        if (got != want) {
            wrong++;
            System.out.println(call + " answered " + got + ", due is " + want);
        }
    }

    void due(String call, boolean got, boolean want) {
        due(call, got ? 1 : 0, want ? 1 : 0);
    }

    /** Every one of these answers is the same one. */
    void all(String call, long want, long... got) {
        for (int i = 0; i < got.length; i++) {
            due(call + " #" + i, got[i], want);
        }
    }

    void end() {
        System.out.println(tested + " answers, " + wrong + " of them not as due");
        if (wrong != 0 || tested == 0) {
            System.exit(1);
        }
    }
}
