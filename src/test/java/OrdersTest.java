/** Promises 8 to 11, 21 and 22: orders, fillings and the plan. */
final class OrdersTest {
    public static void main(String[] args) {
        order();
        tenOrders();
        drop();
        fillReasons();
        fill();
        fillTakesInProportion();
        planOrder();
        planTank();
        planReckonsOnward();
        fillAll();
        ofOrder();
        Check.finish();
    }

    private static void order() {
        BreweryCellar x = new BreweryCellar();
        x.pass(4);
        Check.due("order(-1, 5, 0, 0)", x.order(-1, 5, 0, 0), -2);
        Check.due("order(100, 5, 0, 0)", x.order(100, 5, 0, 0), -2);
        Check.due("order(0, 0, 0, 0)", x.order(0, 0, 0, 0), -2);
        Check.due("order(0, 10000, 0, 0)", x.order(0, 10000, 0, 0), -2);
        Check.due("order(0, 5, -1, 0)", x.order(0, 5, -1, 0), -2);
        Check.due("order(0, 5, 0, 2001)", x.order(0, 5, 0, 2001), -2);
        Check.due("order(0, 5, 2001, 2001)", x.order(0, 5, 2001, 2001), -2);
        Check.due("order(0, 5, 7, 6)", x.order(0, 5, 7, 6), -2);
        Check.due("order(0, 5, -2, -1)", x.order(0, 5, -2, -1), -2);
        Check.due("reason()", x.reason(), -5);
        Check.due("order(0, 1, 7, 7)", x.order(0, 1, 7, 7), 0);
        Check.due("order(99, 9999, 0, 2000)", x.order(99, 9999, 0, 2000), 1);
        Check.due("ofOrder(1, 0)", x.ofOrder(1, 0), 103);
    }

    private static void tenOrders() {
        BreweryCellar x = new BreweryCellar();
        for (int i = 0; i < 10; i++) {
            Check.due("order " + i, x.order(i, 1 + i, i, 2 * i), i);
        }
        Check.due("an 11th order", x.order(0, 1, 0, 0), -4);
        Check.due("an 11th order of nothing", x.order(0, 0, 0, 0), -2);
        x.drop(3);
        Check.due("an 11th order after a drop", x.order(0, 1, 0, 0), -4);
        x.back();
        x.back();
        Check.due("order again after undoing", x.order(50, 77, 0, 0), 9);
        Check.due("ofOrder(9, 1)", x.ofOrder(9, 1), 77);
        Check.due("account(11)", x.account(11), 10);
    }

    private static void drop() {
        BreweryCellar x = new BreweryCellar();
        x.order(0, 1, 0, 0);
        x.order(0, 1, 0, 0);
        x.order(0, 1, 0, 0);
        Check.refused(x, "drop(-1)", x.drop(-1), 5);
        Check.refused(x, "drop(3)", x.drop(3), 5);
        Check.refused(x, "drop(max)", x.drop(Integer.MAX_VALUE), 5);
        Check.due("drop(1)", x.drop(1), 2);
        Check.refused(x, "drop(1)", x.drop(1), 5);
        x.brew(0, 1, 0);
        x.fill(0, 0);
        Check.refused(x, "drop of a filled order", x.drop(0), 5);
        Check.due("drop(2)", x.drop(2), 0);
        Check.due("ofOrder(2, 4)", x.ofOrder(2, 4), 2);
        Check.due("ofOrder(0, 4)", x.ofOrder(0, 4), 1);
    }

    private static void fillReasons() {
        BreweryCellar x = new BreweryCellar();
        x.order(0, 50, 500, 600);
        x.order(0, 60, 501, 600);
        x.order(0, 50, 400, 499);
        x.order(0, 50, 501, 600);
        x.brew(0, 55, 500);
        Check.refused(x, "fill(-1, 9)", x.fill(-1, 9), 1);
        Check.refused(x, "fill(6, 0)", x.fill(6, 0), 1);
        Check.refused(x, "fill(1, 9)", x.fill(1, 9), 5);
        Check.refused(x, "fill(1, -1)", x.fill(1, -1), 5);
        Check.refused(x, "fill(1, 1)", x.fill(1, 1), 2);
        Check.refused(x, "fill(0, 1)", x.fill(0, 1), 3);
        Check.refused(x, "fill(0, 2)", x.fill(0, 2), 6);
        Check.refused(x, "fill(0, 3)", x.fill(0, 3), 6);
        Check.due("account(2)", x.account(2), 0);
        Check.due("fill(0, 0)", x.fill(0, 0), 0);
        Check.refused(x, "fill(1, 0)", x.fill(1, 0), 5);
        x.drop(3);
        Check.refused(x, "fill(0, 3)", x.fill(0, 3), 5);
    }

    private static void fill() {
        BreweryCellar x = new BreweryCellar();
        x.rate(0, 0, 9999);
        x.brew(2, 30, 333);
        x.order(0, 30, 333, 333);
        x.pass(5);
        // 30 litres times 333 times 9999 is 99890010, which is rounded up.
        Check.due("fill(2, 0)", x.fill(2, 0), 9990);
        Check.due("ofOrder(0, 6)", x.ofOrder(0, 6), 9990);
        Check.due("excise(0)", x.excise(0), 9990);
        Check.due("ofTank(2, 2)", x.ofTank(2, 2), 2);
        Check.due("account(9)", x.account(9), 9990);
        Check.due("entry(1, 0)", x.entry(1, 0), 5);
        Check.due("entry(1, 1)", x.entry(1, 1), 4);
        Check.due("entry(1, 2)", x.entry(1, 2), 2);
        Check.due("entry(1, 3)", x.entry(1, 3), 30);
        BreweryCellar y = new BreweryCellar();
        y.size(0, 9999);
        y.brew(0, 9999, 2000);
        y.rate(0, 2000, 9999);
        y.order(0, 9999, 0, 2000);
        Check.due("the greatest duty", y.fill(0, 0), 19996001);
    }

    /** A cellar with 5 litres of the batch 0 (100) and 3 of the batch 1 (900) in the tank 0: strength 400. */
    private static BreweryCellar blended() {
        BreweryCellar x = new BreweryCellar();
        x.brew(0, 5, 100);
        x.brew(1, 3, 900);
        x.transfer(1, 0, 3);
        return x;
    }

    private static void fillTakesInProportion() {
        BreweryCellar x = blended();
        x.rate(0, 0, 10000 - 1);
        x.rate(0, 301, 5000);
        x.order(0, 4, 400, 400);
        // 3 litres and 1 litre: the strength 300 of what is filled counts for the rate, 400 for the order.
        Check.due("fill(0, 0)", x.fill(0, 0), 1200);
        Check.due("ofBatch(0, 3)", x.ofBatch(0, 3), 3);
        Check.due("ofBatch(1, 3)", x.ofBatch(1, 3), 1);
        Check.due("ofTank(0, 3)", x.ofTank(0, 3), 500);
    }

    private static void planOrder() {
        BreweryCellar x = new BreweryCellar();
        x.brew(0, 1000, 500);
        x.order(5, 10, 0, 2000);
        x.order(4, 10, 0, 2000);
        x.order(4, 30, 0, 2000);
        x.order(4, 10, 0, 2000);
        x.order(3, 5, 0, 499);
        x.order(9, 400, 0, 2000);
        x.order(6, 20, 0, 2000);
        x.drop(6);
        int[] due = {2, 1, 3, 0, 5, -5, -5};
        for (int i = 0; i < due.length; i++) {
            Check.due("planned(" + i + ")", x.planned(i), due[i]);
        }
        Check.due("planned(-1)", x.planned(-1), -1);
        Check.due("planned(min)", x.planned(Integer.MIN_VALUE), -1);
        Check.due("planned(max)", x.planned(Integer.MAX_VALUE), -5);
        Check.due("ofOrder(4, 5)", x.ofOrder(4, 5), -5);
        Check.due("ofOrder(6, 5)", x.ofOrder(6, 5), -5);
        Check.due("ofOrder(5, 5)", x.ofOrder(5, 5), 0);
    }

    private static void planTank() {
        BreweryCellar x = new BreweryCellar();
        x.brew(0, 90, 500);
        x.brew(1, 50, 500);
        x.brew(2, 50, 500);
        x.brew(3, 50, 700);
        x.brew(4, 20, 500);
        x.order(0, 40, 500, 600);
        Check.due("ofOrder(0, 5)", x.ofOrder(0, 5), 1);
        x.order(0, 50, 500, 600);
        Check.due("ofOrder(1, 5)", x.ofOrder(1, 5), 1);
        Check.due("ofOrder(0, 5)", x.ofOrder(0, 5), 2);
        x.order(0, 90, 0, 2000);
        x.order(0, 51, 0, 2000);
        Check.due("ofOrder(2, 5)", x.ofOrder(2, 5), 0);
        Check.due("ofOrder(3, 5)", x.ofOrder(3, 5), -5);
        BreweryCellar y = new BreweryCellar();
        y.brew(0, 50, 500);
        y.brew(1, 90, 500);
        y.order(0, 40, 0, 2000);
        Check.due("ofOrder(0, 5)", y.ofOrder(0, 5), 0);
    }

    private static void planReckonsOnward() {
        BreweryCellar x = blended();
        // What the first order takes leaves 2 litres of 100 and 2 of 900, which is 500 and no longer 400.
        x.order(0, 4, 400, 400);
        x.order(0, 3, 400, 400);
        x.order(0, 2, 500, 500);
        Check.due("planned(0)", x.planned(0), 0);
        Check.due("planned(1)", x.planned(1), 2);
        Check.due("planned(2)", x.planned(2), -5);
        Check.due("ofTank(0, 1)", x.ofTank(0, 1), 8);
        Check.due("fillAll()", x.fillAll(), 2);
        Check.due("ofTank(0, 1)", x.ofTank(0, 1), 2);
        Check.due("ofOrder(1, 4)", x.ofOrder(1, 4), 0);
    }

    private static void fillAll() {
        BreweryCellar x = new BreweryCellar();
        Check.due("fillAll()", x.fillAll(), 0);
        Check.due("count(5)", x.count(5), 1);
        x.rate(0, 0, 1);
        x.brew(0, 100, 500);
        x.brew(1, 30, 500);
        x.order(3, 60, 0, 2000);
        x.order(1, 30, 0, 2000);
        x.order(2, 70, 0, 2000);
        Check.due("fillAll()", x.fillAll(), 2);
        Check.due("ofOrder(0, 4)", x.ofOrder(0, 4), 0);
        Check.due("ofOrder(1, 4)", x.ofOrder(1, 4), 1);
        Check.due("ofOrder(2, 4)", x.ofOrder(2, 4), 1);
        Check.due("ofOrder(1, 6)", x.ofOrder(1, 6), 2);
        Check.due("ofOrder(2, 6)", x.ofOrder(2, 6), 4);
        Check.due("ofTank(1, 2)", x.ofTank(1, 2), 2);
        Check.due("ofTank(0, 1)", x.ofTank(0, 1), 30);
        Check.due("entry(2, 2)", x.entry(2, 2), 1);
        Check.due("entry(2, 3)", x.entry(2, 3), 30);
        Check.due("entry(3, 2)", x.entry(3, 2), 0);
        Check.due("entry(3, 3)", x.entry(3, 3), 70);
        Check.due("count(5)", x.count(5), 6);
        Check.due("back()", x.back(), 5);
        Check.due("account(11)", x.account(11), 3);
        Check.due("account(2)", x.account(2), 0);
    }

    private static void ofOrder() {
        BreweryCellar x = new BreweryCellar();
        x.pass(10);
        x.order(7, 60, 400, 900);
        int[] open = {17, 60, 400, 900, 0, -5, -5};
        for (int what = 0; what < open.length; what++) {
            Check.due("ofOrder(0, " + what + ")", x.ofOrder(0, what), open[what]);
        }
        x.brew(3, 60, 400);
        Check.due("ofOrder(0, 5)", x.ofOrder(0, 5), 3);
        x.fill(3, 0);
        Check.due("ofOrder(0, 4)", x.ofOrder(0, 4), 1);
        Check.due("ofOrder(0, 5)", x.ofOrder(0, 5), -5);
        Check.due("ofOrder(0, 6)", x.ofOrder(0, 6), 0);
        Check.due("ofOrder(0, 7)", x.ofOrder(0, 7), -1);
        Check.due("ofOrder(0, -1)", x.ofOrder(0, -1), -1);
        Check.due("ofOrder(1, 0)", x.ofOrder(1, 0), -1);
        Check.due("ofOrder(-1, 0)", x.ofOrder(-1, 0), -1);
        x.order(0, 1, 0, 0);
        x.drop(1);
        Check.due("ofOrder(1, 4)", x.ofOrder(1, 4), 2);
        Check.due("ofOrder(1, 6)", x.ofOrder(1, 6), -5);
    }
}
