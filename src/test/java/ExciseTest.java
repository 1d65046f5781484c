/** Promises 7 and 23 to 25: rates, what is due, and corrections. */
final class ExciseTest {
    public static void main(String[] args) {
        rate();
        holds();
        excise();
        eachDutyIsRoundedByItself();
        correct();
        Check.finish();
    }

    private static void rate() {
        BreweryCellar x = new BreweryCellar();
        Check.due("rate(-1, 0, 0)", x.rate(-1, 0, 0), -2);
        Check.due("rate(10000, 0, 0)", x.rate(10000, 0, 0), -2);
        Check.due("rate(0, -1, 0)", x.rate(0, -1, 0), -2);
        Check.due("rate(0, 2001, 0)", x.rate(0, 2001, 0), -2);
        Check.due("rate(0, 0, -1)", x.rate(0, 0, -1), -2);
        Check.due("rate(0, 0, 10000)", x.rate(0, 0, 10000), -2);
        Check.due("rate(9999, 2000, 9999)", x.rate(9999, 2000, 9999), 0);
        for (int i = 1; i < 10; i++) {
            Check.due("rate " + i, x.rate(0, 0, 0), i);
        }
        Check.due("an 11th rate", x.rate(0, 0, 0), -4);
        Check.due("an 11th rate of -1", x.rate(0, 0, -1), -2);
        Check.due("reason()", x.reason(), -5);
        x.back();
        Check.due("rate again after undoing", x.rate(0, 0, 7), 9);
    }

    private static void holds() {
        BreweryCellar x = new BreweryCellar();
        Check.due("holds(-1, 0)", x.holds(-1, 0), -2);
        Check.due("holds(10000, 0)", x.holds(10000, 0), -2);
        Check.due("holds(0, -1)", x.holds(0, -1), -2);
        Check.due("holds(0, 2001)", x.holds(0, 2001), -2);
        Check.due("holds(9999, 2000)", x.holds(9999, 2000), -5);
        x.rate(10, 500, 1);
        x.rate(5, 600, 1);
        x.rate(8, 500, 1);
        x.rate(10, 500, 1);
        x.rate(9, 500, 1);
        x.rate(0, 100, 1);
        x.rate(3, 600, 1);
        Check.due("holds(0, 99)", x.holds(0, 99), -5);
        Check.due("holds(0, 100)", x.holds(0, 100), 5);
        Check.due("holds(2, 2000)", x.holds(2, 2000), 5);
        Check.due("holds(3, 2000)", x.holds(3, 2000), 6);
        Check.due("holds(5, 600)", x.holds(5, 600), 1);
        Check.due("holds(9999, 600)", x.holds(9999, 600), 1);
        Check.due("holds(7, 599)", x.holds(7, 599), 5);
        Check.due("holds(8, 599)", x.holds(8, 599), 2);
        Check.due("holds(9, 599)", x.holds(9, 599), 4);
        Check.due("holds(10, 599)", x.holds(10, 599), 3);
        Check.due("holds(9999, 500)", x.holds(9999, 500), 3);
        Check.due("holds(9999, 499)", x.holds(9999, 499), 5);
        BreweryCellar y = new BreweryCellar();
        y.rate(5, 500, 1);
        y.rate(9, 400, 1);
        y.rate(4, 500, 1);
        Check.due("holds(9, 500)", y.holds(9, 500), 0);
    }

    /** A cellar in which 100 litres of the strength 500 are filled on the day 5 and again on the day 10. */
    private static BreweryCellar twoFillings(int amount) {
        BreweryCellar x = new BreweryCellar();
        x.rate(0, 0, amount);
        x.brew(0, 900, 500);
        x.order(0, 100, 0, 2000);
        x.order(0, 100, 0, 2000);
        x.pass(5);
        x.fill(0, 0);
        x.pass(5);
        x.fill(0, 1);
        return x;
    }

    private static void sums(BreweryCellar x, long... due) {
        for (int what = 0; what < due.length; what++) {
            Check.due("excise(" + what + ")", x.excise(what), due[what]);
        }
    }

    private static void excise() {
        BreweryCellar x = twoFillings(100);
        sums(x, 1000, 1000, 0, 0);
        x.rate(6, 500, 300);
        sums(x, 1000, 2000, 0, 1000);
        x.rate(11, 500, 9999);
        x.rate(0, 501, 9999);
        sums(x, 1000, 2000, 0, 1000);
        x.rate(5, 500, 0);
        sums(x, 1000, 1500, 0, 500);
        x.correct();
        sums(x, 1000, 1500, 500, 0);
        x.rate(10, 500, 0);
        sums(x, 1000, 0, 500, -1500);
        Check.due("excise(-1)", x.excise(-1), Long.MIN_VALUE);
        Check.due("excise(4)", x.excise(4), Long.MIN_VALUE);
        Check.due("ofOrder(0, 6)", x.ofOrder(0, 6), 500);
    }

    private static void eachDutyIsRoundedByItself() {
        BreweryCellar x = new BreweryCellar();
        x.brew(0, 10, 1);
        for (int i = 0; i < 3; i++) {
            x.order(0, 1, 0, 2000);
        }
        Check.due("fillAll()", x.fillAll(), 3);
        sums(x, 0, 0, 0, 0);
        x.rate(0, 0, 1);
        sums(x, 0, 3, 0, 3);
        x.rate(0, 0, 0);
        sums(x, 0, 0, 0, 0);
    }

    private static void correct() {
        BreweryCellar x = twoFillings(100);
        Check.due("correct()", x.correct(), 0);
        Check.due("count(5)", x.count(5), 6);
        x.rate(0, 1, 50);
        Check.due("correct()", x.correct(), 2);
        sums(x, 1000, 500, -500, 0);
        Check.due("correct()", x.correct(), 0);
        x.rate(10, 1, 250);
        Check.due("correct()", x.correct(), 1);
        sums(x, 1000, 1500, 500, 0);
        Check.due("back()", x.back(), 5);
        sums(x, 1000, 1500, -500, 1000);
        Check.due("reason()", x.reason(), -5);
        BreweryCellar y = new BreweryCellar();
        y.brew(0, 1, 1);
        y.order(0, 1, 0, 2000);
        y.fill(0, 0);
        y.rate(0, 0, 1);
        Check.due("correct() of 1", y.correct(), 1);
        y.rate(0, 0, 0);
        Check.due("correct() of -1", y.correct(), 2);
    }
}
