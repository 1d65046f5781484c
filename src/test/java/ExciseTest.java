/** Rates and what is due: promises 7 and 23 to 25. A test below a quotation is about that sentence. */
final class ExciseTest {
    public static void main(String[] args) {
        tenRatesAtMost();
        undoneRatesMakeRoom();
        dayIsFrom0To9999();
        leastStrengthIsFrom0To2000();
        amountIsFrom0To9999();
        badAheadOfFull();
        dayAndLeastStrengthThatAreNotGreater();
        greatestLeastStrength();
        latestDay();
        latestTold();
        holdsIsAskedWithinItsRange();
        withoutRateNothingIsDue();
        dutyIsRoundedUp();
        alcoholOfABlendCounts();
        eachDutyIsRoundedByItself();
        dayOfTheFillingCounts();
        strengthOfWhatWasFilledCounts();
        paidWhenTheFillingIsMade();
        dueByTheRatesAsTheyAreNow();
        selectorsOfExcise();
        correctPaysWhatIsStillDue();
        correctAnswersAboveAtAndBelow0();
        Check.finish();
    }

    private static void bad(int day, int strength, int amount) {
        Twins.unchanged("rate(" + day + ", " + strength + ", " + amount + ")", Scenes::tanks, -2,
                x -> x.rate(day, strength, amount));
    }

    private static BreweryCellar tenRates() {
        BreweryCellar x = new BreweryCellar();
        for (int i = 0; i < 10; i++) {
            x.rate(i, i * 200, i);
        }
        return x;
    }

    /** "There are at most 10 rates, numbered from 0 in the order in which they were told." "FULL if there are 10". */
    private static void tenRatesAtMost() {
        BreweryCellar x = new BreweryCellar();
        for (int i = 0; i < 10; i++) {
            Check.due("count(3)", x.count(3), i);
            Check.due("rate " + i, x.rate(9 - i, i, i), i);
        }
        Check.due("an 11th rate", x.rate(0, 0, 0), -4);
        Check.due("count(3)", x.count(3), 10);
        Check.due("holds(0, 9)", x.holds(0, 9), 9);
        Check.due("holds(9, 0)", x.holds(9, 0), 0);
        Twins.unchanged("an 11th rate", ExciseTest::tenRates, -4, c -> c.rate(0, 0, 0));
        Twins.unchanged("an 11th rate of the greatest", ExciseTest::tenRates, -4, c -> c.rate(9999, 2000, 9999));
    }

    /** "Changes that were undone make room." */
    private static void undoneRatesMakeRoom() {
        BreweryCellar x = tenRates();
        x.image();
        x.back();
        Check.due("holds(9999, 2000) undone", x.holds(9999, 2000), 8);
        Check.due("rate again", x.rate(0, 0, 7), 9);
        Check.due("holds(0, 0)", x.holds(0, 0), 9);
        Check.due("an 11th rate", x.rate(0, 0, 0), -4);
        x.undo();
        Check.due("holds(9999, 2000) restored", x.holds(9999, 2000), 9);
        Check.due("holds(0, 0) restored", x.holds(0, 0), 0);
        Check.due("an 11th rate", x.rate(0, 0, 0), -4);
    }

    /** "The day from which it holds, 0 to 9999", "for days to come or past ones". */
    private static void dayIsFrom0To9999() {
        for (int day : new int[] {-1, 10000, Integer.MIN_VALUE, Integer.MAX_VALUE}) {
            bad(day, 5, 5);
        }
        BreweryCellar x = Scenes.onDay(100).get();
        Check.due("rate(0, 5, 5)", x.rate(0, 5, 5), 0);
        Check.due("rate(9999, 5, 5)", x.rate(9999, 5, 5), 1);
        Check.due("holds(0, 5)", x.holds(0, 5), 0);
        Check.due("holds(9998, 5)", x.holds(9998, 5), 0);
        Check.due("holds(9999, 5)", x.holds(9999, 5), 1);
    }

    /** "The least strength, 0 to 2000". */
    private static void leastStrengthIsFrom0To2000() {
        for (int strength : new int[] {-1, 2001, Integer.MIN_VALUE, Integer.MAX_VALUE}) {
            bad(5, strength, 5);
        }
        BreweryCellar x = new BreweryCellar();
        Check.due("rate(5, 0, 5)", x.rate(5, 0, 5), 0);
        Check.due("rate(5, 2000, 5)", x.rate(5, 2000, 5), 1);
        Check.due("holds(5, 0)", x.holds(5, 0), 0);
        Check.due("holds(5, 1999)", x.holds(5, 1999), 0);
        Check.due("holds(5, 2000)", x.holds(5, 2000), 1);
    }

    /** "An amount from 0 to 9999." */
    private static void amountIsFrom0To9999() {
        for (int amount : new int[] {-1, 10000, Integer.MIN_VALUE, Integer.MAX_VALUE}) {
            bad(5, 5, amount);
        }
        BreweryCellar x = filled(100, 100);
        Check.due("rate(0, 0, 9999)", x.rate(0, 0, 9999), 0);
        Check.due("excise(1) at 9999", x.excise(1), 9999);
        Check.due("rate(0, 0, 0)", x.rate(0, 0, 0), 1);
        Check.due("excise(1) at 0", x.excise(1), 0);
    }

    /** "If several errors apply, the one that is listed first in the @return line is returned." */
    private static void badAheadOfFull() {
        Twins.unchanged("BAD day", ExciseTest::tenRates, -2, x -> x.rate(10000, 0, 0));
        Twins.unchanged("BAD strength", ExciseTest::tenRates, -2, x -> x.rate(0, 2001, 0));
        Twins.unchanged("BAD amount", ExciseTest::tenRates, -2, x -> x.rate(0, 0, -1));
    }

    /** "Of those with a day and a least strength that are not greater"; holds: "-5 without one". */
    private static void dayAndLeastStrengthThatAreNotGreater() {
        BreweryCellar x = new BreweryCellar();
        Check.due("holds(5, 500) without a rate", x.holds(5, 500), -5);
        x.rate(5, 500, 1);
        Check.due("holds(5, 500)", x.holds(5, 500), 0);
        Check.due("holds(4, 500)", x.holds(4, 500), -5);
        Check.due("holds(5, 499)", x.holds(5, 499), -5);
        Check.due("holds(4, 499)", x.holds(4, 499), -5);
        Check.due("holds(6, 501)", x.holds(6, 501), 0);
        Check.due("holds(9999, 2000)", x.holds(9999, 2000), 0);
    }

    /** "The one with the greatest least strength", before the day counts. */
    private static void greatestLeastStrength() {
        BreweryCellar x = new BreweryCellar();
        x.rate(5, 500, 1);
        x.rate(9, 499, 1);
        x.rate(2, 501, 1);
        Check.due("holds(9, 501)", x.holds(9, 501), 2);
        Check.due("holds(9, 500)", x.holds(9, 500), 0);
        Check.due("holds(4, 500)", x.holds(4, 500), -5);
        Check.due("holds(9, 499)", x.holds(9, 499), 1);
        Check.due("holds(1, 501)", x.holds(1, 501), -5);
    }

    /** "Of these the one with the latest day", whenever it was told. */
    private static void latestDay() {
        BreweryCellar x = new BreweryCellar();
        x.rate(8, 500, 1);
        x.rate(10, 500, 1);
        x.rate(9, 500, 1);
        Check.due("holds(7, 500)", x.holds(7, 500), -5);
        Check.due("holds(8, 500)", x.holds(8, 500), 0);
        Check.due("holds(9, 500)", x.holds(9, 500), 2);
        Check.due("holds(10, 500)", x.holds(10, 500), 1);
        Check.due("holds(9999, 500)", x.holds(9999, 500), 1);
    }

    /** "And of these the latest told". */
    private static void latestTold() {
        BreweryCellar x = new BreweryCellar();
        for (int i = 0; i < 10; i++) {
            x.rate(5, 500, 1);
            Check.due("holds(5, 500)", x.holds(5, 500), i);
        }
        x.back();
        Check.due("holds(5, 500)", x.holds(5, 500), 8);
    }

    /** holds: "the day, 0 to 9999"; "the strength, 0 to 2000"; "BAD if a number is out of range." */
    private static void holdsIsAskedWithinItsRange() {
        for (int day : new int[] {-1, 10000, Integer.MIN_VALUE, Integer.MAX_VALUE}) {
            Twins.unchanged("holds(" + day + ", 0)", Scenes::tanks, -2, x -> x.holds(day, 0));
        }
        for (int strength : new int[] {-1, 2001, Integer.MIN_VALUE, Integer.MAX_VALUE}) {
            Twins.unchanged("holds(0, " + strength + ")", Scenes::tanks, -2, x -> x.holds(0, strength));
        }
        Twins.unchanged("holds(0, 0)", Scenes::tanks, 1, x -> x.holds(0, 0));
        Twins.unchanged("holds(9999, 2000)", Scenes::tanks, 1, x -> x.holds(9999, 2000));
        Check.due("holds(0, -1) without a rate", new BreweryCellar().holds(0, -1), -2);
    }

    /** A cellar without rates, in which an order of these litres of this strength is filled. */
    private static BreweryCellar filled(int litres, int strength) {
        BreweryCellar x = Scenes.brewed(litres, strength);
        x.order(0, litres, 0, 2000);
        x.fill(0, 0);
        return x;
    }

    /** "Without one, nothing is due." */
    private static void withoutRateNothingIsDue() {
        BreweryCellar x = Scenes.brewed(100, 500);
        x.rate(0, 501, 9999);
        x.rate(1, 0, 9999);
        x.order(0, 100, 0, 2000);
        Check.due("fill(0, 0)", x.fill(0, 0), 0);
        sums(x, 0, 0, 0, 0);
    }

    /** "Its alcohol times the amount of the rate, divided by 10000 and rounded up". */
    private static void dutyIsRoundedUp() {
        // the litres, the strength, the amount, and the duty
        int[][] due = {
            {1, 0, 9999, 0}, {9999, 2000, 0, 0}, {1, 1, 1, 1}, {99, 101, 1, 1}, {100, 100, 1, 1}, {73, 137, 1, 2},
            {100, 100, 9999, 9999}, {1, 2000, 5, 1}, {1, 2000, 6, 2}, {9999, 2000, 9999, 19996001},
            {9999, 2000, 1, 2000}
        };
        for (int[] one : due) {
            BreweryCellar x = Scenes.brewed(one[0], one[1]);
            x.rate(0, 0, one[2]);
            x.order(0, one[0], 0, 2000);
            String filling = "of " + one[0] + " litres of " + one[1] + " at " + one[2];
            Check.due("the duty " + filling, x.fill(0, 0), one[3]);
            Check.due("ofOrder(0, 6) " + filling, x.ofOrder(0, 6), one[3]);
            sums(x, one[3], one[3], 0, 0);
        }
    }

    /** "The duty on a filling is its alcohol times the amount": not its litres times the strength rounded down. */
    private static void alcoholOfABlendCounts() {
        // 1 of 0 and 2 of 100 have an alcohol of 200, and a strength of 66.67.
        BreweryCellar x = Scenes.blended(1, 2);
        x.rate(0, 0, 9999);
        x.order(0, 3, 66, 66);
        Check.due("fill(5, 0)", x.fill(5, 0), 200);
        sums(x, 200, 200, 0, 0);
        x.back();
        Check.due("fillAll()", x.fillAll(), 1);
        Check.due("ofOrder(0, 6)", x.ofOrder(0, 6), 200);
        x.back();
        Check.due("run()", Scenes.run(x, "f5#0"), 1);
        sums(x, 200, 200, 0, 0);
        x.rate(0, 66, 5000);
        sums(x, 200, 100, 0, -100);
        // 99 of 0 and 1 of 100 have a strength of 1, and 100 of 0 and 1 of 100 one of 0, but not no alcohol.
        for (int litres : new int[] {99, 100}) {
            BreweryCellar y = Scenes.blended(litres, 1);
            y.rate(0, 0, 9999);
            y.order(0, litres + 1, 0, 2000);
            Check.due("fill(5, 0) of " + litres + " and 1", y.fill(5, 0), 100);
        }
    }

    /** "Each duty is rounded up by itself." */
    private static void eachDutyIsRoundedByItself() {
        BreweryCellar x = Scenes.brewed(10, 1);
        for (int i = 0; i < 3; i++) {
            x.order(0, 1, 0, 2000);
        }
        Check.due("fillAll()", x.fillAll(), 3);
        sums(x, 0, 0, 0, 0);
        x.rate(0, 0, 1);
        sums(x, 0, 3, 0, 3);
        x.rate(0, 0, 0);
        sums(x, 0, 0, 0, 0);
    }

    /** A cellar in which 100 litres of the strength 500 are filled on the day 5 and again on the day 10. */
    private static BreweryCellar twoFillings(int amount) {
        BreweryCellar x = Scenes.brewed(900, 500);
        x.rate(0, 0, amount);
        x.order(0, 100, 0, 2000);
        x.order(0, 100, 0, 2000);
        x.pass(5);
        x.fill(0, 0);
        x.pass(5);
        x.fill(0, 1);
        return x;
    }

    private static void sums(BreweryCellar x, long... due) {
        for (int what = 0; what < due.length; what++) {
            Check.due("excise(" + what + ")", x.excise(what), due[what]);
        }
    }

    /** "Where the day of the filling .. count[s]": not the present day, nor the one on which the order is due. */
    private static void dayOfTheFillingCounts() {
        int[][] due = {{4, 3000}, {5, 3000}, {6, 2000}, {10, 2000}, {11, 1000}};
        for (int[] one : due) {
            BreweryCellar x = twoFillings(100);
            x.rate(one[0], 0, 300);
            Check.due("excise(1) with a rate from " + one[0], x.excise(1), one[1]);
            x.pass(100);
            Check.due("excise(1) later", x.excise(1), one[1]);
        }
        BreweryCellar y = Scenes.brewed(100, 500);
        y.rate(6, 0, 100);
        y.order(50, 10, 0, 2000);
        y.order(50, 10, 0, 2000);
        y.pass(5);
        Check.due("fill(0, 0) on 5", y.fill(0, 0), 0);
        y.pass(1);
        Check.due("fill(0, 1) on 6", y.fill(0, 1), 50);
    }

    /** "The duty goes by the strength of the litres that were filled." */
    private static void strengthOfWhatWasFilledCounts() {
        // 3 litres of 0 and 1 of 100 are taken out of 5 and 3: 25, where the tank has 37 and afterwards 50.
        int[][] due = {{25, 4}, {26, 0}, {37, 0}, {50, 0}};
        for (int[] one : due) {
            BreweryCellar x = Scenes.blended(5, 3);
            x.rate(0, one[0], 400);
            x.order(0, 4, 37, 37);
            Check.due("fill(5, 0) with a rate from " + one[0], x.fill(5, 0), one[1]);
            Check.due("excise(1)", x.excise(1), one[1]);
            Check.due("ofTank(5, 3)", x.ofTank(5, 3), 50);
        }
        // 1 of 0 and 2 of 100 are 66.67, which is rounded down.
        BreweryCellar y = Scenes.blended(1, 2);
        y.rate(0, 67, 9999);
        y.rate(0, 66, 100);
        y.order(0, 3, 0, 2000);
        Check.due("fill(5, 0)", y.fill(5, 0), 2);
    }

    /** "It is paid when the filling is made": excise(0) stays as it was then. */
    private static void paidWhenTheFillingIsMade() {
        BreweryCellar x = twoFillings(100);
        sums(x, 1000, 1000, 0, 0);
        x.rate(0, 0, 9999);
        x.pass(1);
        x.correct();
        Check.due("excise(0)", x.excise(0), 1000);
        Check.due("ofOrder(0, 6)", x.ofOrder(0, 6), 500);
        Check.due("ofOrder(1, 6)", x.ofOrder(1, 6), 500);
    }

    /** "1 what would be due for all fillings by the rates as they are now"; "3 .. 1 minus 0 and 2". */
    private static void dueByTheRatesAsTheyAreNow() {
        BreweryCellar x = twoFillings(100);
        x.rate(6, 500, 300);
        sums(x, 1000, 2000, 0, 1000);
        x.rate(11, 500, 9999);
        x.rate(0, 501, 9999);
        sums(x, 1000, 2000, 0, 1000);
        x.rate(5, 500, 0);
        sums(x, 1000, 1500, 0, 500);
        x.correct();
        sums(x, 1000, 1500, 500, 0);
        x.rate(10, 500, 0);
        sums(x, 1000, 0, 500, -1500);
        x.back();
        sums(x, 1000, 1500, 500, 0);
    }

    /** excise: "Long.MIN_VALUE if what is invalid." */
    private static void selectorsOfExcise() {
        for (int what : new int[] {-1, 4, Integer.MIN_VALUE, Integer.MAX_VALUE}) {
            Twins.unchanged("excise(" + what + ")", Scenes::tanks, Long.MIN_VALUE, x -> x.excise(what));
        }
        long[] due = {240, 480, 0, 240};
        for (int what = 0; what < due.length; what++) {
            int asked = what;
            Twins.unchanged("excise(" + what + ")", Scenes::tanks, due[what], x -> x.excise(asked));
        }
    }

    /** "Pays what is still due by a correction, also if it is 0 or below"; "2 .. which can be below 0". */
    private static void correctPaysWhatIsStillDue() {
        BreweryCellar x = twoFillings(100);
        Check.due("correct()", x.correct(), 0);
        sums(x, 1000, 1000, 0, 0);
        Check.due("count(5)", x.count(5), 6);
        x.rate(0, 1, 50);
        Check.due("correct()", x.correct(), 2);
        sums(x, 1000, 500, -500, 0);
        Check.due("correct()", x.correct(), 0);
        x.rate(10, 1, 250);
        Check.due("correct()", x.correct(), 1);
        sums(x, 1000, 1500, 500, 0);
        Check.due("back()", x.back(), 5);
        sums(x, 1000, 1500, -500, 1000);
        Check.due("reason()", x.reason(), -5);
    }

    /** "Returns 1 if it was above 0, 0 if it was 0, and 2 if it was below 0." */
    private static void correctAnswersAboveAtAndBelow0() {
        BreweryCellar x = new BreweryCellar();
        Check.due("correct() of nothing", x.correct(), 0);
        Check.due("count(5)", x.count(5), 1);
        BreweryCellar y = filled(1, 1);
        Check.due("correct() of 0", y.correct(), 0);
        y.rate(0, 0, 1);
        Check.due("correct() of 1", y.correct(), 1);
        Check.due("excise(2)", y.excise(2), 1);
        y.rate(0, 0, 0);
        Check.due("correct() of -1", y.correct(), 2);
        Check.due("excise(2)", y.excise(2), 0);
        Check.due("correct() of 0", y.correct(), 0);
        // six of the greatest duties
        BreweryCellar z = new BreweryCellar();
        z.rate(0, 0, 9999);
        for (int tank = 0; tank < 6; tank++) {
            z.size(tank, 9999);
            z.brew(tank, 9999, 2000);
            z.order(0, 9999, 0, 2000);
        }
        Check.due("fillAll()", z.fillAll(), 6);
        Check.due("excise(0)", z.excise(0), 6L * 19996001);
        z.rate(0, 0, 0);
        Check.due("correct()", z.correct(), 2);
        Check.due("excise(2)", z.excise(2), -6L * 19996001);
    }
}
