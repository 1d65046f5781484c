/** Promise 1, the constants, and what every question answers on a new object. */
final class NewObjectTest {
    public static void main(String[] args) {
        constants();
        tanksAreClean();
        nothingElseIsThere();
        objectsAreApart();
        all512CallsAreAnswered();
        Check.finish();
    }

    private static void constants() {
        Check.due("NONE", BreweryCellar.NONE, -1);
        Check.due("BAD", BreweryCellar.BAD, -2);
        Check.due("STATE", BreweryCellar.STATE, -3);
        Check.due("FULL", BreweryCellar.FULL, -4);
    }

    private static void tanksAreClean() {
        BreweryCellar x = new BreweryCellar();
        int[] due = {1000, 0, 0, -5, -5, 0, 1000};
        for (int tank = 0; tank < 6; tank++) {
            for (int what = 0; what < due.length; what++) {
                Check.due("ofTank(" + tank + ", " + what + ")", x.ofTank(tank, what), due[what]);
            }
        }
        Check.due("count(10)", x.count(10), 6);
        Check.due("count(11)", x.count(11), 0);
        Check.due("count(12)", x.count(12), 0);
        Check.due("count(13)", x.count(13), 0);
    }

    private static void nothingElseIsThere() {
        BreweryCellar x = new BreweryCellar();
        for (int what = 0; what <= 5; what++) {
            Check.due("count(" + what + ")", x.count(what), 0);
        }
        Check.due("count(6)", x.count(6), 5);
        Check.due("reason()", x.reason(), -5);
        Check.due("litres(0, 0)", x.litres(0, 0), -1);
        Check.due("ofBatch(0, 0)", x.ofBatch(0, 0), -1);
        Check.due("ofOrder(0, 0)", x.ofOrder(0, 0), -1);
        Check.due("planned(0)", x.planned(0), -5);
        Check.due("holds(0, 0)", x.holds(0, 0), -5);
        Check.due("entry(-1, 0)", x.entry(-1, 0), 0);
        Check.due("entry(0, 0)", x.entry(0, 0), -1);
        for (int what = 0; what <= 3; what++) {
            Check.due("excise(" + what + ")", x.excise(what), 0);
        }
        for (int what = 0; what <= 12; what++) {
            Check.due("account(" + what + ")", x.account(what), 0);
        }
        Check.due("back()", x.back(), -3);
        Check.due("undo()", x.undo(), -3);
        Check.due("reason() after back() and undo()", x.reason(), -5);
        Check.due("run()", x.run(), -100);
    }

    private static void objectsAreApart() {
        BreweryCellar one = new BreweryCellar();
        one.brew(0, 100, 500);
        one.feed(1, 'd', 0, 0, 0, 0);
        BreweryCellar other = new BreweryCellar();
        Check.due("count(1) of another object", other.count(1), 0);
        Check.due("count(4) of another object", other.count(4), 0);
        Check.due("count(1)", one.count(1), 1);
    }

    /** "An object is used for at most 512 calls after it has been made". */
    private static void all512CallsAreAnswered() {
        BreweryCellar x = new BreweryCellar();
        x.brew(0, 1000, 500);
        for (int call = 2; call <= 510; call++) {
            Check.due("lose(0, 1, 1) as call " + call, x.lose(0, 1, 1), 1001 - call);
        }
        Check.due("entry(-1, 0) as call 511", x.entry(-1, 0), 510);
        Check.due("back() as call 512", x.back(), 5);
    }
}
