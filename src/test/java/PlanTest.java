import java.util.function.Supplier;

/** The plan of fillings: promises 11 and 22. A test below a quotation is about that sentence. */
final class PlanTest {
    public static void main(String[] args) {
        nothingIsPlanned();
        ascendingDays();
        ordersOfPastDays();
        descendingLitres();
        ascendingNumbers();
        tankInUseAlone();
        tankFromWhichItCouldBeFilled();
        fewestLitresLeft();
        lowestOfSeveralTanks();
        whatAnOrderTakesIsGone();
        strengthsAsIfEachOrderWasFilled();
        tenOrdersOfOneBlend();
        orderWithoutTankIsNotPlanned();
        numbersAmongThePlanned();
        planChangesNothing();
        fillAllWithoutOrders();
        fillAllAsPlanned();
        fillAllOfTenOrders();
        fillAllPaysEachDuty();
        Check.finish();
    }

    private static void planned(BreweryCellar x, int... due) {
        for (int i = 0; i < due.length; i++) {
            Check.due("planned(" + i + ")", x.planned(i), due[i]);
        }
        Check.due("planned(" + due.length + ")", x.planned(due.length), -5);
    }

    private static void tanksOfOrders(BreweryCellar x, int... due) {
        for (int i = 0; i < due.length; i++) {
            Check.due("ofOrder(" + i + ", 5)", x.ofOrder(i, 5), due[i]);
        }
    }

    private static void nothingIsPlanned() {
        BreweryCellar x = new BreweryCellar();
        planned(x);
        x.order(0, 5, 0, 2000);
        planned(x);
        x.brew(0, 4, 500);
        planned(x);
        x.brew(1, 5, 500);
        planned(x, 0);
        x.drop(0);
        planned(x);
        // Orders that there are not want nothing, which a tank without strength could give.
        BreweryCellar y = Scenes.brewed(5, 0);
        planned(y);
        y.order(0, 5, 1, 2000);
        planned(y);
        Check.due("fillAll()", y.fillAll(), 0);
        y.order(0, 5, 0, 0);
        planned(y, 1);
    }

    /** "Open orders are planned in ascending order of their days". */
    private static void ascendingDays() {
        BreweryCellar x = Scenes.brewed(1000, 500);
        x.order(2, 10, 0, 2000);
        x.order(0, 10, 0, 2000);
        x.order(99, 900, 0, 2000);
        x.order(1, 1, 0, 2000);
        planned(x, 1, 3, 0, 2);
        // The day on which it is due counts, not the days until then.
        x.pass(2);
        x.order(0, 5, 0, 2000);
        x.order(1, 20, 0, 2000);
        planned(x, 1, 3, 0, 4, 5, 2);
    }

    /** "It is open until it is filled or dropped": also when the day on which it is due is over. */
    private static void ordersOfPastDays() {
        BreweryCellar x = Scenes.brewed(100, 500);
        x.order(0, 10, 0, 2000);
        x.pass(999);
        x.order(0, 20, 0, 2000);
        planned(x, 0, 1);
        Check.due("ofOrder(0, 4)", x.ofOrder(0, 4), 0);
        Check.due("fill(0, 0)", x.fill(0, 0), 0);
        Check.due("ofOrder(0, 4)", x.ofOrder(0, 4), 1);
    }

    /** "Of the same day in descending order of their litres". */
    private static void descendingLitres() {
        BreweryCellar x = Scenes.brewed(100, 500);
        x.order(3, 10, 0, 2000);
        x.order(3, 12, 0, 2000);
        x.order(3, 9, 0, 2000);
        x.order(3, 11, 0, 2000);
        planned(x, 1, 3, 0, 2);
    }

    /** "Of the same litres in ascending order of their numbers". */
    private static void ascendingNumbers() {
        BreweryCellar x = Scenes.brewed(100, 500);
        for (int i = 0; i < 10; i++) {
            x.order(3, 10, i * 50, 2000 - i * 50);
        }
        planned(x, 0, 1, 2, 3, 4, 5, 6, 7, 8, 9);
        x.lose(0, 45, 1);
        planned(x, 0, 1, 2, 3, 4);
    }

    /** "Each one is planned from the tank, in use". */
    private static void tankInUseAlone() {
        BreweryCellar x = Scenes.tanks();
        x.order(0, 1, 0, 2000);
        x.lose(0, 500, 1);
        tanksOfOrders(x, -5, -5, -5, 1);
        x.lose(1, 300, 1);
        tanksOfOrders(x, -5, -5, -5, -5);
    }

    /** "From which it could be filled": at least so many litres, a strength from the least to the greatest one. */
    private static void tankFromWhichItCouldBeFilled() {
        // the litres, the least and the greatest strength, and the tank
        int[][] due = {
            {50, 500, 500, 0}, {51, 500, 500, -5}, {50, 0, 499, -5}, {50, 501, 699, -5}, {60, 700, 700, 1},
            {61, 700, 700, -5}, {60, 0, 2000, 1}, {61, 0, 2000, -5}, {50, 0, 2000, 0}, {51, 0, 2000, 1}
        };
        for (int[] one : due) {
            BreweryCellar x = new BreweryCellar();
            x.brew(0, 50, 500);
            x.brew(1, 60, 700);
            x.order(0, one[0], one[1], one[2]);
            tanksOfOrders(x, one[3]);
            Check.due("fillAll()", x.fillAll(), one[3] < 0 ? 0 : 1);
        }
    }

    /** "And in which the fewest litres would be left". */
    private static void fewestLitresLeft() {
        BreweryCellar x = new BreweryCellar();
        x.brew(0, 90, 500);
        x.brew(1, 51, 500);
        x.brew(2, 50, 500);
        x.brew(3, 49, 500);
        x.order(0, 50, 0, 2000);
        tanksOfOrders(x, 2);
        x.lose(2, 1, 1);
        tanksOfOrders(x, 1);
        x.lose(1, 2, 1);
        tanksOfOrders(x, 0);
        x.lose(0, 41, 1);
        tanksOfOrders(x, -5);
    }

    /** "Of several the lowest one". */
    private static void lowestOfSeveralTanks() {
        BreweryCellar x = new BreweryCellar();
        x.brew(5, 50, 500);
        x.brew(4, 50, 500);
        x.brew(0, 60, 500);
        x.order(0, 40, 0, 2000);
        tanksOfOrders(x, 4);
        x.brew(1, 50, 500);
        tanksOfOrders(x, 1);
        x.lose(0, 10, 1);
        tanksOfOrders(x, 0);
    }

    /** "Not yet used up by the plan"; "what an order takes is gone for the orders behind it." */
    private static void whatAnOrderTakesIsGone() {
        BreweryCellar x = new BreweryCellar();
        x.brew(0, 50, 500);
        x.brew(1, 90, 500);
        x.order(0, 50, 0, 2000);
        x.order(1, 40, 0, 2000);
        x.order(2, 50, 0, 2000);
        x.order(3, 1, 0, 2000);
        tanksOfOrders(x, 0, 1, 1, -5);
        planned(x, 0, 1, 2);
        x.size(1, 1000);
        x.brew(2, 1, 500);
        tanksOfOrders(x, 0, 1, 1, 2);
        // What is left behind an order ahead counts, not what is in the tank.
        BreweryCellar y = new BreweryCellar();
        y.brew(0, 60, 500);
        y.brew(1, 50, 500);
        y.order(0, 55, 0, 2000);
        y.order(1, 5, 0, 2000);
        tanksOfOrders(y, 0, 0);
    }

    /** "The plan reckons as if each order was filled, one after the other." */
    private static void strengthsAsIfEachOrderWasFilled() {
        BreweryCellar x = new BreweryCellar();
        x.brew(0, 5, 100);
        x.brew(1, 3, 900);
        x.transfer(1, 0, 3);
        // What the first order takes leaves 2 litres of 100 and 2 of 900, which is 500 and no longer 400.
        x.order(0, 4, 400, 400);
        x.order(0, 3, 400, 400);
        x.order(0, 2, 500, 500);
        planned(x, 0, 2);
        tanksOfOrders(x, 0, -5, 0);
        Check.due("fillAll()", x.fillAll(), 2);
        Check.due("ofTank(0, 1)", x.ofTank(0, 1), 2);
        Check.due("ofOrder(1, 4)", x.ofOrder(1, 4), 0);
    }

    /** The same with 31 litres of a blend: every 3 litres that are taken out leave another strength. */
    private static void tenOrdersOfOneBlend() {
        int[] strengths = {116, 117, 120, 122, 121, 125, 123, 130, 128, 150};
        BreweryCellar x = Scenes.blended(6, 14, 11);
        for (int strength : strengths) {
            x.order(0, 3, strength, strength);
        }
        planned(x, 0, 1, 2, 3, 4, 5, 6, 7, 8, 9);
        tanksOfOrders(x, 5, 5, 5, 5, 5, 5, 5, 5, 5, 5);
        Check.due("fillAll()", x.fillAll(), 10);
        Check.due("litres(5, 2)", x.litres(5, 2), 1);
        Check.due("ofTank(5, 1)", x.ofTank(5, 1), 1);
        // Without the first order nothing leaves the strength that the second one wants.
        x.back();
        x.drop(0);
        planned(x);
    }

    /** "An order without such a tank is not planned": those behind it are. */
    private static void orderWithoutTankIsNotPlanned() {
        BreweryCellar x = Scenes.brewed(100, 500);
        x.order(0, 101, 0, 2000);
        x.order(1, 60, 501, 2000);
        x.order(2, 60, 0, 2000);
        x.order(3, 60, 0, 2000);
        x.order(4, 40, 0, 2000);
        planned(x, 2, 4);
        tanksOfOrders(x, -5, -5, 0, -5, 0);
    }

    /** planned: "its number among them, from 0"; "-5 if there are not so many; NONE if i is below 0." */
    private static void numbersAmongThePlanned() {
        for (int i : new int[] {-1, -2, Integer.MIN_VALUE}) {
            Twins.unchanged("planned(" + i + ")", Scenes::tanks, -1, x -> x.planned(i));
            Twins.unchanged("planned(" + i + ") of nothing", BreweryCellar::new, -1, x -> x.planned(i));
        }
        Twins.unchanged("planned(0)", Scenes::tanks, 0, x -> x.planned(0));
        for (int i : new int[] {1, 9, 10, Integer.MAX_VALUE}) {
            Twins.unchanged("planned(" + i + ")", Scenes::tanks, -5, x -> x.planned(i));
        }
        Check.due("planned(9) of 10", tenOrders().get().planned(9), 0);
        Check.due("planned(10) of 10", tenOrders().get().planned(10), -5);
    }

    private static void planChangesNothing() {
        Twins.unchanged("planned(0)", tenOrders(), 9, x -> x.planned(0));
        Twins.unchanged("ofOrder(3, 5)", tenOrders(), 0, x -> x.ofOrder(3, 5));
    }

    /** All orders of the same day: the order i for 1 + i litres, and 55 litres in the tank 0. */
    private static Supplier<BreweryCellar> tenOrders() {
        return () -> {
            BreweryCellar x = new BreweryCellar();
            for (int i = 0; i < 10; i++) {
                x.order(0, 1 + i, 0, 2000);
            }
            x.brew(0, 55, 500);
            return x;
        };
    }

    /** "Returns the number of orders", also if it is none. */
    private static void fillAllWithoutOrders() {
        BreweryCellar x = new BreweryCellar();
        Check.due("fillAll()", x.fillAll(), 0);
        Check.due("count(5)", x.count(5), 1);
        x.order(0, 5, 0, 2000);
        Check.due("fillAll() without a tank", x.fillAll(), 0);
        Check.due("ofOrder(0, 4)", x.ofOrder(0, 4), 0);
        Check.due("entry(-1, 0)", x.entry(-1, 0), 0);
        Check.due("count(5)", x.count(5), 3);
    }

    /** "Fills all orders that are planned, as planned." */
    private static void fillAllAsPlanned() {
        BreweryCellar x = new BreweryCellar();
        x.brew(0, 100, 500);
        x.brew(1, 30, 500);
        x.order(3, 60, 0, 2000);
        x.order(1, 30, 0, 2000);
        x.order(2, 70, 0, 2000);
        Check.due("fillAll()", x.fillAll(), 2);
        Check.due("ofOrder(0, 4)", x.ofOrder(0, 4), 0);
        Check.due("ofOrder(1, 4)", x.ofOrder(1, 4), 1);
        Check.due("ofOrder(2, 4)", x.ofOrder(2, 4), 1);
        Check.due("ofTank(1, 2)", x.ofTank(1, 2), 2);
        Check.due("ofTank(0, 1)", x.ofTank(0, 1), 30);
        int[][] entries = {{0, 4, 1, 30}, {0, 4, 0, 70}};
        for (int what = 0; what < 4; what++) {
            Check.due("entry(2, " + what + ")", x.entry(2, what), entries[0][what]);
            Check.due("entry(3, " + what + ")", x.entry(3, what), entries[1][what]);
        }
        Check.due("entry(-1, 0)", x.entry(-1, 0), 4);
        Check.due("count(5)", x.count(5), 6);
        Check.due("back()", x.back(), 5);
        Check.due("account(11)", x.account(11), 3);
        Check.due("account(2)", x.account(2), 0);
    }

    private static void fillAllOfTenOrders() {
        BreweryCellar x = tenOrders().get();
        Check.due("fillAll()", x.fillAll(), 10);
        Check.due("account(2)", x.account(2), 55);
        Check.due("account(11)", x.account(11), 0);
        Check.due("ofTank(0, 2)", x.ofTank(0, 2), 2);
        for (int i = 0; i < 10; i++) {
            Check.due("entry(" + (1 + i) + ", 3)", x.entry(1 + i, 3), 10 - i);
        }
        Check.due("fillAll()", x.fillAll(), 0);
    }

    private static void fillAllPaysEachDuty() {
        BreweryCellar x = Scenes.brewed(100, 500);
        x.rate(0, 0, 1);
        x.order(1, 30, 0, 2000);
        x.order(2, 70, 0, 2000);
        Check.due("fillAll()", x.fillAll(), 2);
        Check.due("ofOrder(0, 6)", x.ofOrder(0, 6), 2);
        Check.due("ofOrder(1, 6)", x.ofOrder(1, 6), 4);
        Check.due("excise(0)", x.excise(0), 6);
        Check.due("excise(3)", x.excise(3), 0);
    }
}
