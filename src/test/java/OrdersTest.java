import java.util.function.Supplier;

/** Orders and fillings: promises 8 to 10 and 21. A test below a quotation is about that sentence. */
final class OrdersTest {
    public static void main(String[] args) {
        daysAreFrom0To99();
        litresAreFrom1To9999();
        strengthsAreFrom0To2000();
        leastIsAtMostGreatest();
        tenOrdersAtMost();
        undoneOrdersMakeRoom();
        badAheadOfFull();
        onlyOpenOrdersAreDropped();
        dropReturnsOpenOrders();
        fillNeedsTank();
        fillNeedsOpenOrder();
        fillNeedsTankInUse();
        fillNeedsLitres();
        fillNeedsStrength();
        strengthIsComparedAsItIsTold();
        reasonsOfFillInTheirOrder();
        fillTakesTheLitresOfTheOrder();
        fillReturnsTheDuty();
        numbersOfOrder();
        selectorsOfOrders();
        tankFromWhichOrderIsPlanned();
        dutyThatWasPaid();
        Check.finish();
    }

    private static void bad(int days, int litres, int least, int greatest) {
        Twins.unchanged("order(" + days + ", " + litres + ", " + least + ", " + greatest + ")", Scenes::tanks, -2,
                x -> x.order(days, litres, least, greatest));
    }

    /** A cellar with all orders: the order i is due on the day i, for 1 + i litres of the strength 100. */
    private static BreweryCellar tenOrders() {
        BreweryCellar x = new BreweryCellar();
        for (int i = 0; i < 10; i++) {
            x.order(i, 1 + i, 100, 100);
        }
        x.brew(0, 500, 100);
        return x;
    }

    /** "The number of days from the present one until it is due, 0 to 99". */
    private static void daysAreFrom0To99() {
        for (int days : new int[] {-1, 100, Integer.MIN_VALUE, Integer.MAX_VALUE}) {
            bad(days, 5, 0, 0);
        }
        BreweryCellar x = Scenes.onDay(4).get();
        Check.due("order(0, 5, 0, 0)", x.order(0, 5, 0, 0), 0);
        Check.due("order(99, 5, 0, 0)", x.order(99, 5, 0, 0), 1);
        Check.due("ofOrder(0, 0)", x.ofOrder(0, 0), 4);
        Check.due("ofOrder(1, 0)", x.ofOrder(1, 0), 103);
        x.pass(7);
        Check.due("ofOrder(1, 0) later", x.ofOrder(1, 0), 103);
        BreweryCellar y = Scenes.onDay(9999).get();
        Check.due("order(99, 5, 0, 0) on 9999", y.order(99, 5, 0, 0), 0);
        Check.due("ofOrder(0, 0) on 9999", y.ofOrder(0, 0), 10098);
    }

    /** "Litres from 1 to 9999". */
    private static void litresAreFrom1To9999() {
        for (int litres : new int[] {0, -1, 10000, Integer.MIN_VALUE, Integer.MAX_VALUE}) {
            bad(0, litres, 0, 0);
        }
        BreweryCellar x = new BreweryCellar();
        Check.due("order(0, 1, 0, 0)", x.order(0, 1, 0, 0), 0);
        Check.due("order(0, 9999, 0, 0)", x.order(0, 9999, 0, 0), 1);
        Check.due("ofOrder(0, 1)", x.ofOrder(0, 1), 1);
        Check.due("ofOrder(1, 1)", x.ofOrder(1, 1), 9999);
    }

    /** "The least strength, 0 to 2000"; "the greatest strength, 0 to 2000". */
    private static void strengthsAreFrom0To2000() {
        bad(0, 5, -1, 0);
        bad(0, 5, -1, 2000);
        bad(0, 5, -2, -1);
        bad(0, 5, 0, 2001);
        bad(0, 5, 2000, 2001);
        bad(0, 5, 2001, 2001);
        bad(0, 5, Integer.MIN_VALUE, Integer.MAX_VALUE);
        bad(0, 5, Integer.MIN_VALUE, Integer.MIN_VALUE);
        bad(0, 5, Integer.MAX_VALUE, Integer.MAX_VALUE);
        BreweryCellar x = new BreweryCellar();
        Check.due("order(0, 5, 0, 0)", x.order(0, 5, 0, 0), 0);
        Check.due("order(0, 5, 0, 2000)", x.order(0, 5, 0, 2000), 1);
        Check.due("order(0, 5, 2000, 2000)", x.order(0, 5, 2000, 2000), 2);
        Check.due("ofOrder(2, 2)", x.ofOrder(2, 2), 2000);
        Check.due("ofOrder(1, 3)", x.ofOrder(1, 3), 2000);
    }

    /** "The least one at most the greatest one"; "BAD if .. the least strength is greater than the greatest one". */
    private static void leastIsAtMostGreatest() {
        bad(0, 5, 7, 6);
        bad(0, 5, 1, 0);
        bad(0, 5, 2000, 1999);
        bad(0, 5, 2000, 0);
        BreweryCellar x = new BreweryCellar();
        Check.due("order(0, 5, 7, 7)", x.order(0, 5, 7, 7), 0);
        Check.due("order(0, 5, 7, 8)", x.order(0, 5, 7, 8), 1);
        Check.due("ofOrder(1, 2)", x.ofOrder(1, 2), 7);
        Check.due("ofOrder(1, 3)", x.ofOrder(1, 3), 8);
    }

    /** "At most 10 orders can be made, numbered from 0." "FULL if there are 10 orders." */
    private static void tenOrdersAtMost() {
        BreweryCellar x = new BreweryCellar();
        for (int i = 0; i < 10; i++) {
            Check.due("count(2)", x.count(2), i);
            Check.due("order " + i, x.order(i, 1 + i, 0, 0), i);
        }
        Check.due("an 11th order", x.order(0, 1, 0, 0), -4);
        Check.due("count(2)", x.count(2), 10);
        Check.due("reason()", x.reason(), -5);
        Twins.unchanged("an 11th order", OrdersTest::tenOrders, -4, c -> c.order(0, 1, 0, 0));
        Twins.unchanged("an 11th order behind a dropped one", () -> {
            BreweryCellar c = tenOrders();
            c.drop(9);
            return c;
        }, -4, c -> c.order(0, 1, 0, 0));
        Twins.unchanged("an 11th order behind filled ones", () -> {
            BreweryCellar c = tenOrders();
            c.fillAll();
            return c;
        }, -4, c -> c.order(0, 1, 0, 0));
    }

    /** "Changes that were undone make room." */
    private static void undoneOrdersMakeRoom() {
        BreweryCellar x = new BreweryCellar();
        for (int i = 0; i < 10; i++) {
            x.order(i, 1 + i, 0, 0);
        }
        x.image();
        x.back();
        Check.due("ofOrder(9, 0) undone", x.ofOrder(9, 0), -1);
        Check.due("order again", x.order(50, 77, 0, 0), 9);
        Check.due("ofOrder(9, 1)", x.ofOrder(9, 1), 77);
        Check.due("an 11th order", x.order(0, 1, 0, 0), -4);
        x.undo();
        Check.due("ofOrder(9, 1) restored", x.ofOrder(9, 1), 10);
        Check.due("an 11th order", x.order(0, 1, 0, 0), -4);
    }

    /** "If several errors apply, the one that is listed first in the @return line is returned." */
    private static void badAheadOfFull() {
        Twins.unchanged("BAD days", OrdersTest::tenOrders, -2, x -> x.order(100, 1, 0, 0));
        Twins.unchanged("BAD litres", OrdersTest::tenOrders, -2, x -> x.order(0, 0, 0, 0));
        Twins.unchanged("BAD strengths", OrdersTest::tenOrders, -2, x -> x.order(0, 1, 1, 0));
    }

    /** "It is open until it is filled or dropped." drop: "STATE with the reason 5": "no such order, or .. not open". */
    private static void onlyOpenOrdersAreDropped() {
        for (int order : new int[] {-1, 3, 9, 10, Integer.MIN_VALUE, Integer.MAX_VALUE}) {
            Twins.refused("drop(" + order + ")", Scenes::tanks, 5, x -> x.drop(order));
        }
        Twins.refused("drop(1) filled", Scenes::tanks, 5, x -> x.drop(1));
        Twins.refused("drop(2) dropped", Scenes::tanks, 5, x -> x.drop(2));
        Twins.refused("drop(0) without an order", BreweryCellar::new, 5, x -> x.drop(0));
        Twins.refused("drop(10) of 10", OrdersTest::tenOrders, 5, x -> x.drop(10));
        Check.due("drop(9) of 10", tenOrders().drop(9), 9);
        BreweryCellar x = Scenes.tanks();
        Check.due("drop(0)", x.drop(0), 0);
        Check.due("ofOrder(0, 4)", x.ofOrder(0, 4), 2);
        Check.due("reason()", x.reason(), 7);
    }

    /** drop: "Returns the number of open orders that remain". */
    private static void dropReturnsOpenOrders() {
        BreweryCellar x = tenOrders();
        x.fill(0, 4);
        Check.due("drop(0)", x.drop(0), 8);
        Check.due("drop(9)", x.drop(9), 7);
        Check.due("fillAll()", x.fillAll(), 7);
        x.back();
        for (int left = 6, order = 1; order < 9; order++) {
            if (order != 4) {
                Check.due("drop(" + order + ")", x.drop(order), left);
                left--;
            }
        }
        Check.due("account(11)", x.account(11), 0);
    }

    /** fill: "STATE with the reason 1": "there is no such tank". */
    private static void fillNeedsTank() {
        for (int tank : Scenes.NO_TANKS) {
            Twins.refused("fill(" + tank + ", 0)", Scenes::tanks, 1, x -> x.fill(tank, 0));
        }
        BreweryCellar x = tenOrders();
        x.brew(5, 5, 100);
        Check.due("fill(0, 0)", x.fill(0, 0), 0);
        Check.due("fill(5, 1)", x.fill(5, 1), 0);
    }

    /** "5 there is no such order, or it is not open". */
    private static void fillNeedsOpenOrder() {
        for (int order : new int[] {-1, 3, 9, 10, Integer.MIN_VALUE, Integer.MAX_VALUE}) {
            Twins.refused("fill(0, " + order + ")", Scenes::tanks, 5, x -> x.fill(0, order));
        }
        Twins.refused("fill(0, 1) filled", Scenes::tanks, 5, x -> x.fill(0, 1));
        Twins.refused("fill(0, 2) dropped", Scenes::tanks, 5, x -> x.fill(0, 2));
        Twins.refused("fill(0, 10) of 10", OrdersTest::tenOrders, 5, x -> x.fill(0, 10));
        Check.due("fill(0, 9) of 10", tenOrders().fill(0, 9), 0);
        Check.due("fill(0, 0)", tenOrders().fill(0, 0), 0);
    }

    /** "2 a tank that is to give something is not in use". */
    private static void fillNeedsTankInUse() {
        Twins.refused("fill(2, 0) dirty", Scenes::tanks, 2, x -> x.fill(2, 0));
        Twins.refused("fill(3, 0) being cleaned", Scenes::tanks, 2, x -> x.fill(3, 0));
        Twins.refused("fill(4, 0) clean", Scenes::tanks, 2, x -> x.fill(4, 0));
    }

    private static Supplier<BreweryCellar> ordered(int litres, int least, int greatest) {
        return () -> {
            BreweryCellar x = Scenes.brewed(55, 500);
            x.order(0, litres, least, greatest);
            return x;
        };
    }

    /** "The tank is to have at least so many litres": "3 there are too few litres". */
    private static void fillNeedsLitres() {
        Twins.refused("fill(0, 0) of 56 litres", ordered(56, 0, 2000), 3, x -> x.fill(0, 0));
        Twins.refused("fill(0, 0) of 9999 litres", ordered(9999, 0, 2000), 3, x -> x.fill(0, 0));
        BreweryCellar x = ordered(55, 0, 2000).get();
        Check.due("fill(0, 0) of 55 litres", x.fill(0, 0), 0);
        Check.due("ofTank(0, 2)", x.ofTank(0, 2), 2);
        BreweryCellar y = ordered(54, 0, 2000).get();
        Check.due("fill(0, 0) of 54 litres", y.fill(0, 0), 0);
        Check.due("ofTank(0, 1)", y.ofTank(0, 1), 1);
    }

    /** "And a strength from the least to the greatest one": "6 the strength is not what is wanted". */
    private static void fillNeedsStrength() {
        Twins.refused("fill(0, 0) of 501 to 600", ordered(5, 501, 600), 6, x -> x.fill(0, 0));
        Twins.refused("fill(0, 0) of 400 to 499", ordered(5, 400, 499), 6, x -> x.fill(0, 0));
        Twins.refused("fill(0, 0) of 0 to 0", ordered(5, 0, 0), 6, x -> x.fill(0, 0));
        Twins.refused("fill(0, 0) of 2000 to 2000", ordered(5, 2000, 2000), 6, x -> x.fill(0, 0));
        Check.due("fill(0, 0) of 500 to 600", ordered(5, 500, 600).get().fill(0, 0), 0);
        Check.due("fill(0, 0) of 400 to 500", ordered(5, 400, 500).get().fill(0, 0), 0);
        Check.due("fill(0, 0) of 500 to 500", ordered(5, 500, 500).get().fill(0, 0), 0);
    }

    /** "The strengths of orders are compared with the strength as it is told, rounded down." */
    private static void strengthIsComparedAsItIsTold() {
        // 1 litre of 0 and 2 of 100 are 66.67, which is told as 66.
        for (int[] one : new int[][] {{0, 66, 0}, {66, 66, 0}, {67, 2000, 6}, {0, 65, 6}}) {
            BreweryCellar x = Scenes.blended(1, 2);
            x.order(0, 1, one[0], one[1]);
            Check.due("planned(0) of " + one[0] + " to " + one[1], x.planned(0), one[2] == 0 ? 0 : -5);
            int answer = x.fill(5, 0);
            Check.due("fill(5, 0) of " + one[0] + " to " + one[1], answer, one[2] == 0 ? 0 : -3);
            Check.due("reason()", x.reason(), one[2] == 0 ? -5 : 6);
        }
    }

    /** "STATE with the reason 1, 5, 2, 3 or 6, in this order." */
    private static void reasonsOfFillInTheirOrder() {
        Supplier<BreweryCellar> much = ordered(56, 600, 700);
        Twins.refused("1 ahead of 5", Scenes::tanks, 1, x -> x.fill(6, 9));
        Twins.refused("1 ahead of all", much, 1, x -> x.fill(-1, 0));
        Twins.refused("5 ahead of 2", Scenes::tanks, 5, x -> x.fill(4, 3));
        Twins.refused("5 ahead of 2", Scenes::tanks, 5, x -> x.fill(2, 1));
        Twins.refused("5 ahead of 2", Scenes::tanks, 5, x -> x.fill(3, 2));
        Twins.refused("2 ahead of 3 and 6", much, 2, x -> x.fill(1, 0));
        Twins.refused("3 ahead of 6", much, 3, x -> x.fill(0, 0));
    }

    /** "To fill an order from a tank means to take its litres out of the tank". */
    private static void fillTakesTheLitresOfTheOrder() {
        BreweryCellar x = Scenes.brewed(100, 500);
        x.brew(2, 100, 500);
        x.order(9, 30, 500, 500);
        x.pass(5);
        Check.due("fill(2, 0)", x.fill(2, 0), 0);
        Check.due("ofTank(2, 1)", x.ofTank(2, 1), 70);
        Check.due("ofTank(0, 1)", x.ofTank(0, 1), 100);
        Check.due("account(2)", x.account(2), 30);
        Check.due("account(9)", x.account(9), 15000);
        Check.due("ofBatch(1, 3)", x.ofBatch(1, 3), 30);
        Check.due("ofBatch(0, 3)", x.ofBatch(0, 3), 0);
        Check.due("ofOrder(0, 4)", x.ofOrder(0, 4), 1);
        int[] entry = {5, 4, 2, 30};
        for (int what = 0; what < entry.length; what++) {
            Check.due("entry(2, " + what + ")", x.entry(2, what), entry[what]);
        }
    }

    /** "Returns the duty that is paid". */
    private static void fillReturnsTheDuty() {
        BreweryCellar x = Scenes.brewed(30, 333);
        x.rate(0, 0, 9999);
        x.order(0, 30, 333, 333);
        // 30 litres times 333 times 9999 is 99890010, which is rounded up.
        Check.due("fill(0, 0)", x.fill(0, 0), 9990);
        Check.due("ofOrder(0, 6)", x.ofOrder(0, 6), 9990);
        Check.due("excise(0)", x.excise(0), 9990);
        BreweryCellar y = Scenes.brewed(9999, 2000);
        y.rate(0, 2000, 9999);
        y.order(0, 9999, 0, 2000);
        Check.due("the greatest duty", y.fill(0, 0), 19996001);
        Check.due("excise(1)", y.excise(1), 19996001);
    }

    /** ofOrder: the day, the litres, the strengths, and whether it is open, filled or dropped. */
    private static void numbersOfOrder() {
        BreweryCellar x = Scenes.onDay(10).get();
        x.order(7, 60, 400, 900);
        x.order(0, 1, 0, 0);
        int[] open = {17, 60, 400, 900, 0, -5, -5};
        for (int what = 0; what < open.length; what++) {
            Check.due("ofOrder(0, " + what + ")", x.ofOrder(0, what), open[what]);
        }
        x.brew(3, 60, 400);
        Check.due("ofOrder(0, 5)", x.ofOrder(0, 5), 3);
        x.fill(3, 0);
        x.drop(1);
        int[] filled = {17, 60, 400, 900, 1, -5, 0};
        int[] dropped = {10, 1, 0, 0, 2, -5, -5};
        for (int what = 0; what < open.length; what++) {
            Check.due("ofOrder(0, " + what + ") filled", x.ofOrder(0, what), filled[what]);
            Check.due("ofOrder(1, " + what + ") dropped", x.ofOrder(1, what), dropped[what]);
        }
    }

    /** ofOrder: "NONE if there is no such order or what is invalid." */
    private static void selectorsOfOrders() {
        for (int order : new int[] {-1, 3, 9, 10, Integer.MIN_VALUE, Integer.MAX_VALUE}) {
            for (int what : new int[] {0, 5, 6, 7}) {
                Twins.unchanged("ofOrder(" + order + ", " + what + ")", Scenes::tanks, -1,
                        x -> x.ofOrder(order, what));
            }
        }
        for (int what : new int[] {-1, 7, Integer.MIN_VALUE, Integer.MAX_VALUE}) {
            Twins.unchanged("ofOrder(0, " + what + ")", Scenes::tanks, -1, x -> x.ofOrder(0, what));
        }
        Twins.unchanged("ofOrder(0, 5)", Scenes::tanks, 0, x -> x.ofOrder(0, 5));
        Check.due("ofOrder(0, 0) without an order", new BreweryCellar().ofOrder(0, 0), -1);
        Check.due("ofOrder(9, 0) of 10", tenOrders().ofOrder(9, 0), 9);
        Check.due("ofOrder(10, 0) of 10", tenOrders().ofOrder(10, 0), -1);
    }

    /** "5 the tank from which it is planned now, -5 without one". */
    private static void tankFromWhichOrderIsPlanned() {
        BreweryCellar x = ordered(55, 500, 500).get();
        Check.due("ofOrder(0, 5)", x.ofOrder(0, 5), 0);
        x.brew(5, 55, 500);
        x.lose(0, 1, 1);
        Check.due("ofOrder(0, 5) of the last tank", x.ofOrder(0, 5), 5);
        x.lose(5, 1, 1);
        Check.due("ofOrder(0, 5) without litres", x.ofOrder(0, 5), -5);
        x.back();
        Check.due("ofOrder(0, 5) with them again", x.ofOrder(0, 5), 5);
        x.drop(0);
        Check.due("ofOrder(0, 5) dropped", x.ofOrder(0, 5), -5);
        x.back();
        x.fill(5, 0);
        Check.due("ofOrder(0, 5) filled", x.ofOrder(0, 5), -5);
    }

    /** "6 the duty that was paid for it, -5 if it is not filled". */
    private static void dutyThatWasPaid() {
        BreweryCellar x = ordered(10, 500, 500).get();
        x.order(0, 20, 500, 500);
        x.rate(0, 0, 100);
        Check.due("ofOrder(0, 6) open", x.ofOrder(0, 6), -5);
        x.fill(0, 0);
        Check.due("ofOrder(0, 6) filled", x.ofOrder(0, 6), 50);
        Check.due("ofOrder(1, 6) open", x.ofOrder(1, 6), -5);
        x.rate(0, 0, 900);
        x.correct();
        Check.due("ofOrder(0, 6) after a correction", x.ofOrder(0, 6), 50);
        x.drop(1);
        Check.due("ofOrder(1, 6) dropped", x.ofOrder(1, 6), -5);
        BreweryCellar y = ordered(10, 500, 500).get();
        y.fill(0, 0);
        Check.due("ofOrder(0, 6) without a rate", y.ofOrder(0, 6), 0);
        // The duty of each one, in whatever order they are filled.
        BreweryCellar z = Scenes.brewed(100, 500);
        z.rate(0, 0, 100);
        for (int order = 0; order < 4; order++) {
            z.order(0, 10 + 2 * order, 0, 2000);
        }
        z.fill(0, 2);
        z.fill(0, 1);
        int[] due = {-5, 60, 70, -5};
        for (int order = 0; order < due.length; order++) {
            Check.due("ofOrder(" + order + ", 6) of four", z.ofOrder(order, 6), due[order]);
        }
    }
}
