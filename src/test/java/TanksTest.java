import java.util.Arrays;

/** Days and tanks: promises 2, 12, 13 and 17. A test below a quotation is about that sentence. */
final class TanksTest {
    public static void main(String[] args) {
        dayIsZeroAtFirstAndAtMost9999();
        oneTo999DaysPass();
        tanksThatBecomeCleanAreCounted();
        thereAreSixTanks();
        sizeIsFrom1To9999();
        sizeIsNotBelowWhatIsInTheTank();
        sizeReturnsTheOneBefore();
        errorsOfSizeInTheirOrder();
        emptiedTankIsDirty();
        tankInUseHasSomethingInIt();
        cleaningTakesTwoDays();
        onlyDirtyTanksAreCleaned();
        cleaningBeginsOnThePresentDay();
        selectorsOfTanks();
        strengthOfTank();
        dayOnWhichTankIsClean();
        batchesOfTank();
        roomOfTank();
        Check.finish();
    }

    /** "The present day is 0 at first and at most 9999." pass: "also if the present day would be above 9999". */
    private static void dayIsZeroAtFirstAndAtMost9999() {
        Check.due("count(0)", new BreweryCellar().count(0), 0);
        BreweryCellar x = Scenes.onDay(9998).get();
        Check.due("pass(1) on 9998", x.pass(1), 0);
        Check.due("count(0)", x.count(0), 9999);
        x = Scenes.onDay(9000).get();
        Check.due("pass(999) on 9000", x.pass(999), 0);
        Check.due("count(0)", x.count(0), 9999);
        Twins.refused("pass(1) on 9999", Scenes.onDay(9999), 8, c -> c.pass(1));
        Twins.refused("pass(2) on 9998", Scenes.onDay(9998), 8, c -> c.pass(2));
        Twins.refused("pass(999) on 9001", Scenes.onDay(9001), 8, c -> c.pass(999));
        Twins.refused("pass(max) on 9999", Scenes.onDay(9999), 8, c -> c.pass(Integer.MAX_VALUE));
    }

    /** pass: "the number of days, 1 to 999"; "STATE with the reason 8"; "0 days are refused for 8". */
    private static void oneTo999DaysPass() {
        BreweryCellar x = new BreweryCellar();
        Check.due("pass(1)", x.pass(1), 0);
        Check.due("count(0)", x.count(0), 1);
        Check.due("pass(999)", x.pass(999), 0);
        Check.due("count(0)", x.count(0), 1000);
        Check.due("reason()", x.reason(), -5);
        for (int days : new int[] {0, -1, 1000, Integer.MIN_VALUE, Integer.MAX_VALUE}) {
            Twins.refused("pass(" + days + ")", Scenes::tanks, 8, c -> c.pass(days));
        }
    }

    /** "Returns the number of tanks that become clean." */
    private static void tanksThatBecomeCleanAreCounted() {
        BreweryCellar x = Scenes.allDirty();
        Check.due("pass(5) while nothing is cleaned", x.pass(5), 0);
        x.clean(0);
        x.clean(3);
        x.pass(1);
        x.clean(5);
        Check.due("pass(1)", x.pass(1), 2);
        Check.due("count(10)", x.count(10), 2);
        Check.due("count(12)", x.count(12), 3);
        Check.due("count(13)", x.count(13), 1);
        Check.due("pass(1)", x.pass(1), 1);
        Check.due("pass(1)", x.pass(1), 0);
        BreweryCellar y = Scenes.allDirty();
        for (int tank = 0; tank < 6; tank++) {
            y.clean(tank);
        }
        Check.due("pass(2) of all", y.pass(2), 6);
        Check.due("count(10)", y.count(10), 6);
    }

    /** "There are 6 tanks, numbered from 0." "NONE if there is no such tank". */
    private static void thereAreSixTanks() {
        for (int tank : Scenes.NO_TANKS) {
            String first = "(" + tank + ", ..)";
            Twins.unchanged("size" + first, Scenes::tanks, -1, x -> x.size(tank, 500));
            Twins.refused("clean(" + tank + ")", Scenes::tanks, 1, x -> x.clean(tank));
            for (int what = 0; what <= 6; what++) {
                int asked = what;
                Twins.unchanged("ofTank" + first, Scenes::tanks, -1, x -> x.ofTank(tank, asked));
            }
        }
        BreweryCellar x = new BreweryCellar();
        for (int tank = 0; tank < 6; tank++) {
            Check.due("size of tank " + tank, x.size(tank, 101 + tank), 1000);
        }
        for (int tank = 0; tank < 6; tank++) {
            Check.due("ofTank(" + tank + ", 0)", x.ofTank(tank, 0), 101 + tank);
        }
    }

    /** "A tank has a size from 1 to 9999 litres, at first 1000"; "BAD if the size is out of range". */
    private static void sizeIsFrom1To9999() {
        BreweryCellar x = new BreweryCellar();
        Check.due("size(5, 1)", x.size(5, 1), 1000);
        Check.due("ofTank(5, 0)", x.ofTank(5, 0), 1);
        Check.due("size(5, 9999)", x.size(5, 9999), 1);
        Check.due("ofTank(5, 0)", x.ofTank(5, 0), 9999);
        for (int litres : new int[] {0, -1, 10000, Integer.MIN_VALUE, Integer.MAX_VALUE}) {
            Twins.unchanged("size(4, " + litres + ")", Scenes::tanks, -2, c -> c.size(4, litres));
        }
    }

    /** "STATE with the reason 4 if there is more in it." */
    private static void sizeIsNotBelowWhatIsInTheTank() {
        Twins.refused("size(0, 499)", Scenes::tanks, 4, x -> x.size(0, 499));
        Twins.refused("size(0, 1)", Scenes::tanks, 4, x -> x.size(0, 1));
        Twins.refused("size(1, 299) of a full tank", Scenes::tanks, 4, x -> x.size(1, 299));
        BreweryCellar x = Scenes.tanks();
        Check.due("size(0, 500)", x.size(0, 500), 1000);
        Check.due("ofTank(0, 0)", x.ofTank(0, 0), 500);
        Check.due("size(1, 300) of a full tank", x.size(1, 300), 300);
        Check.due("size(2, 1) of a dirty tank", x.size(2, 1), 1000);
        Check.due("ofTank(2, 0)", x.ofTank(2, 0), 1);
        Check.due("ofTank(2, 2)", x.ofTank(2, 2), 2);
        Check.due("size(3, 1) of a tank being cleaned", x.size(3, 1), 1000);
        Check.due("ofTank(3, 0)", x.ofTank(3, 0), 1);
        Check.due("ofTank(3, 2)", x.ofTank(3, 2), 3);
        Check.due("ofTank(3, 4)", x.ofTank(3, 4), 5);
        Check.due("reason()", x.reason(), 7);
        Twins.refused("size(5, 59) of a blend", () -> Scenes.blended(10, 20, 30), 4, c -> c.size(5, 59));
        BreweryCellar y = Scenes.blended(10, 20, 30);
        Check.due("size(5, 60) of a blend", y.size(5, 60), 9999);
        Check.due("ofTank(5, 6)", y.ofTank(5, 6), 0);
    }

    /** "Returns the size before". */
    private static void sizeReturnsTheOneBefore() {
        BreweryCellar x = new BreweryCellar();
        Check.due("size(2, 700)", x.size(2, 700), 1000);
        Check.due("size(2, 700)", x.size(2, 700), 700);
        Check.due("size(2, 9)", x.size(2, 9), 700);
        Check.due("ofTank(1, 0)", x.ofTank(1, 0), 1000);
        Check.due("ofTank(3, 0)", x.ofTank(3, 0), 1000);
        Check.due("count(5)", x.count(5), 3);
    }

    /** "If several errors apply, the one that is listed first in the @return line is returned." */
    private static void errorsOfSizeInTheirOrder() {
        Twins.unchanged("size(6, 0)", Scenes::tanks, -1, x -> x.size(6, 0));
        Twins.unchanged("size(-1, 10000)", Scenes::tanks, -1, x -> x.size(-1, 10000));
        Twins.unchanged("size(0, 0) below what is in it", Scenes::tanks, -2, x -> x.size(0, 0));
    }

    /** "When it becomes empty, it is dirty", by whatever it becomes so. */
    private static void emptiedTankIsDirty() {
        BreweryCellar x = Scenes.brewed(20, 500);
        x.lose(0, 19, 1);
        Check.due("ofTank(0, 2) with one litre", x.ofTank(0, 2), 1);
        x.lose(0, 1, 1);
        Check.due("ofTank(0, 2) lost", x.ofTank(0, 2), 2);
        BreweryCellar y = Scenes.brewed(20, 500);
        y.transfer(0, 1, 20);
        Check.due("ofTank(0, 2) transferred", y.ofTank(0, 2), 2);
        y.order(0, 20, 0, 2000);
        y.fill(1, 0);
        Check.due("ofTank(1, 2) filled", y.ofTank(1, 2), 2);
        BreweryCellar z = Scenes.brewed(20, 500);
        z.order(0, 20, 0, 2000);
        z.fillAll();
        Check.due("ofTank(0, 2) filled as planned", z.ofTank(0, 2), 2);
        z.back();
        Check.due("run()", Scenes.run(z, "f0#0"), 1);
        Check.due("ofTank(0, 2) by a command", z.ofTank(0, 2), 2);
        Check.due("count(12)", z.count(12), 1);
    }

    /** "A tank is in use just if there is something in it". */
    private static void tankInUseHasSomethingInIt() {
        BreweryCellar x = new BreweryCellar();
        Check.due("ofTank(0, 2) at first", x.ofTank(0, 2), 0);
        x.brew(0, 1, 0);
        Check.due("ofTank(0, 2) with one litre", x.ofTank(0, 2), 1);
        x.transfer(0, 1, 1);
        Check.due("ofTank(1, 2) with one litre", x.ofTank(1, 2), 1);
        Check.due("count(10)", x.count(10), 4);
        Check.due("count(11)", x.count(11), 1);
    }

    /** "Cleaning takes 2 days: a tank that is cleaned from a day on is clean on the day that is 2 days later." */
    private static void cleaningTakesTwoDays() {
        BreweryCellar x = Scenes.allDirty();
        x.clean(4);
        Check.due("pass(1)", x.pass(1), 0);
        Check.due("ofTank(4, 2) a day later", x.ofTank(4, 2), 3);
        Check.refused(x, "brew(4, 5, 5) a day later", x.brew(4, 5, 5), 2);
        Check.due("pass(1)", x.pass(1), 1);
        Check.due("ofTank(4, 2) 2 days later", x.ofTank(4, 2), 0);
        Check.due("brew(4, 5, 5) 2 days later", x.brew(4, 5, 5), 6);
        for (int days : new int[] {2, 3, 999}) {
            BreweryCellar y = Scenes.allDirty();
            y.clean(0);
            Check.due("pass(" + days + ")", y.pass(days), 1);
            Check.due("ofTank(0, 2)", y.ofTank(0, 2), 0);
            Check.due("ofTank(1, 2) of a tank that is not cleaned", y.ofTank(1, 2), 2);
        }
        BreweryCellar z = Scenes.allDirty();
        z.clean(0);
        Check.due("run()", Scenes.run(z, "d1"), 1);
        Check.due("ofTank(0, 2) a day later", z.ofTank(0, 2), 3);
        Check.due("run()", Scenes.run(z, "d1"), 1);
        Check.due("ofTank(0, 2) 2 days later", z.ofTank(0, 2), 0);
    }

    /** clean: "STATE with the reason 1 or 7": "7 the tank is not dirty". */
    private static void onlyDirtyTanksAreCleaned() {
        Twins.refused("clean(0) in use", Scenes::tanks, 7, x -> x.clean(0));
        Twins.refused("clean(3) being cleaned", Scenes::tanks, 7, x -> x.clean(3));
        // The reason 7 is there already: a reason of another kind shows that it is told anew.
        Twins.refused("clean(4) of a clean tank", () -> {
            BreweryCellar x = Scenes.tanks();
            x.pass(0);
            return x;
        }, 7, x -> x.clean(4));
        BreweryCellar x = Scenes.tanks();
        Check.due("clean(2)", x.clean(2), 5);
        Check.due("ofTank(2, 2)", x.ofTank(2, 2), 3);
        Check.due("count(13)", x.count(13), 2);
    }

    /** clean: "from the present day on"; "Returns the day on which it is clean". */
    private static void cleaningBeginsOnThePresentDay() {
        BreweryCellar x = Scenes.allDirty();
        Check.due("clean(0) on 0", x.clean(0), 2);
        x.pass(997);
        Check.due("clean(1) on 997", x.clean(1), 999);
        Check.due("ofTank(1, 4)", x.ofTank(1, 4), 999);
        BreweryCellar y = Scenes.onDay(9997).get();
        y.brew(0, 5, 5);
        y.lose(0, 5, 1);
        Check.due("clean(0) on 9997", y.clean(0), 9999);
        Check.due("pass(2)", y.pass(2), 1);
        y.brew(1, 5, 5);
        y.lose(1, 5, 1);
        Check.due("clean(1) on 9999", y.clean(1), 10001);
        Check.due("ofTank(1, 4)", y.ofTank(1, 4), 10001);
    }

    /** ofTank: "NONE if there is no such tank or what is invalid." */
    private static void selectorsOfTanks() {
        for (int what : new int[] {-1, 7, Integer.MIN_VALUE, Integer.MAX_VALUE}) {
            Twins.unchanged("ofTank(0, " + what + ")", Scenes::tanks, -1, x -> x.ofTank(0, what));
        }
        int[][] due = {
            {1000, 500, 1, 480, -5, 1, 500},
            {300, 300, 1, 2000, -5, 1, 0},
            {1000, 0, 2, -5, -5, 0, 1000},
            {1000, 0, 3, -5, 5, 0, 1000},
            {1000, 0, 0, -5, -5, 0, 1000},
            {10, 0, 0, -5, -5, 0, 10},
        };
        for (int tank = 0; tank < 6; tank++) {
            for (int what = 0; what <= 6; what++) {
                int asked = tank;
                int part = what;
                Twins.unchanged("ofTank(" + tank + ", " + what + ")", Scenes::tanks, due[tank][what],
                        x -> x.ofTank(asked, part));
            }
        }
    }

    /** "3 its strength, -5 if it is empty"; "its alcohol divided by its litres, rounded down". */
    private static void strengthOfTank() {
        Check.due("ofTank(0, 3) of nothing", new BreweryCellar().ofTank(0, 3), -5);
        Check.due("ofTank(0, 3) without strength", Scenes.brewed(1, 0).ofTank(0, 3), 0);
        Check.due("ofTank(0, 3) of the greatest", Scenes.brewed(9999, 2000).ofTank(0, 3), 2000);
        Check.due("1 of 0 and 1 of 100", Scenes.blended(1, 1).ofTank(5, 3), 50);
        Check.due("2 of 0 and 1 of 100", Scenes.blended(2, 1).ofTank(5, 3), 33);
        Check.due("1 of 0 and 2 of 100", Scenes.blended(1, 2).ofTank(5, 3), 66);
        Check.due("100 of 0 and 1 of 100", Scenes.blended(100, 1).ofTank(5, 3), 0);
        Check.due("99 of 0 and 1 of 100", Scenes.blended(99, 1).ofTank(5, 3), 1);
        Check.due("1 of 0 and 100 of 100", Scenes.blended(1, 100).ofTank(5, 3), 99);
    }

    /** "4 the day on which it is clean, -5 if it is not being cleaned". */
    private static void dayOnWhichTankIsClean() {
        BreweryCellar x = Scenes.brewed(5, 5);
        Check.due("ofTank(0, 4) in use", x.ofTank(0, 4), -5);
        x.lose(0, 5, 1);
        Check.due("ofTank(0, 4) dirty", x.ofTank(0, 4), -5);
        x.clean(0);
        Check.due("ofTank(0, 4) being cleaned", x.ofTank(0, 4), 2);
        x.pass(1);
        Check.due("ofTank(0, 4) a day later", x.ofTank(0, 4), 2);
        x.pass(1);
        Check.due("ofTank(0, 4) clean", x.ofTank(0, 4), -5);
        x.brew(0, 5, 5);
        Check.due("ofTank(0, 4) in use again", x.ofTank(0, 4), -5);
    }

    /** "5 the number of its batches": those of which it has a litre. */
    private static void batchesOfTank() {
        BreweryCellar x = Scenes.blended(1, 2, 40);
        Check.due("ofTank(5, 5)", x.ofTank(5, 5), 3);
        Check.due("ofTank(1, 5) of nothing", x.ofTank(1, 5), 0);
        x.lose(5, 30, 1);
        // 13 litres are left: none of the batch 0, one of the batch 1, 12 of the batch 2.
        Check.due("litres(5, 0)", x.litres(5, 0), 0);
        Check.due("ofTank(5, 5)", x.ofTank(5, 5), 2);
        int[] one = new int[16];
        Arrays.fill(one, 1);
        Check.due("ofTank(5, 5) of all batches", Scenes.blended(one).ofTank(5, 5), 16);
    }

    /** "6 the litres that there is room for"; "at most up to its size". */
    private static void roomOfTank() {
        BreweryCellar x = new BreweryCellar();
        Check.due("ofTank(0, 6)", x.ofTank(0, 6), 1000);
        x.brew(0, 999, 5);
        Check.due("ofTank(0, 6)", x.ofTank(0, 6), 1);
        x.size(0, 999);
        Check.due("ofTank(0, 6) of a full tank", x.ofTank(0, 6), 0);
        x.size(0, 9999);
        Check.due("ofTank(0, 6)", x.ofTank(0, 6), 9000);
    }
}
