/** Counts and prints the answers that are not the ones that are due. */
final class Check {
    private static int checked = 0;
    private static int wrong = 0;

    private Check() {
    }

    static void due(String call, long got, long want) {
        checked++;
        if (got != want) {
            wrong++;
            System.out.println(call + " answered " + got + ", due is " + want);
        }
    }

    static void holds(String claim, boolean holds) {
        checked++;
        if (!holds) {
            wrong++;
            System.out.println("not so: " + claim);
        }
    }

    /** A call that is to be refused with STATE and a reason. */
    static void refused(BreweryCellar cellar, String call, long got, int reason) {
        due(call, got, BreweryCellar.STATE);
        due("reason() after " + call, cellar.reason(), reason);
    }

    static void finish() {
        System.out.println(checked + " answers looked at, " + wrong + " wrong");
        if (wrong > 0) {
            System.exit(1);
        }
    }
}
