/** Promises 2 to 6, 12, 13 and 17 to 19: tanks, batches, transfers, losses and cleaning. */
final class TanksTest {
    public static void main(String[] args) {
        size();
        brew();
        sixteenBatches();
        transferReasons();
        transferRoom();
        transferStates();
        proportion();
        lossOfTransfer();
        lose();
        setLoss();
        clean();
        pass();
        lastDay();
        ofTank();
        litres();
        ofBatch();
        Check.finish();
    }

    private static void size() {
        BreweryCellar x = new BreweryCellar();
        Check.due("size(-1, 0)", x.size(-1, 0), -1);
        Check.due("size(6, 5)", x.size(6, 5), -1);
        Check.due("size(5, 0)", x.size(5, 0), -2);
        Check.due("size(5, -1)", x.size(5, -1), -2);
        Check.due("size(5, 10000)", x.size(5, 10000), -2);
        Check.due("size(5, max)", x.size(5, Integer.MAX_VALUE), -2);
        Check.due("reason()", x.reason(), -5);
        Check.due("count(5)", x.count(5), 0);
        Check.due("size(5, 9999)", x.size(5, 9999), 1000);
        Check.due("size(5, 1)", x.size(5, 1), 9999);
        Check.due("size(5, 100)", x.size(5, 100), 1);
        x.brew(5, 90, 500);
        Check.refused(x, "size(5, 89)", x.size(5, 89), 4);
        Check.due("ofTank(5, 0)", x.ofTank(5, 0), 100);
        Check.due("size(5, 90)", x.size(5, 90), 100);
        Check.due("ofTank(5, 0)", x.ofTank(5, 0), 90);
        Check.due("ofTank(4, 0)", x.ofTank(4, 0), 1000);
    }

    private static void brew() {
        BreweryCellar x = new BreweryCellar();
        Check.due("brew(-1, 0, 0)", x.brew(-1, 0, 0), -1);
        Check.due("brew(6, 5, 5)", x.brew(6, 5, 5), -1);
        Check.due("brew(0, 0, 5)", x.brew(0, 0, 5), -2);
        Check.due("brew(0, 10000, 5)", x.brew(0, 10000, 5), -2);
        Check.due("brew(0, 5, -1)", x.brew(0, 5, -1), -2);
        Check.due("brew(0, 5, 2001)", x.brew(0, 5, 2001), -2);
        Check.due("reason()", x.reason(), -5);
        Check.refused(x, "brew(0, 1001, 5)", x.brew(0, 1001, 5), 4);
        Check.due("brew(0, 1000, 2000)", x.brew(0, 1000, 2000), 0);
        x.size(1, 9999);
        Check.due("brew(1, 9999, 0)", x.brew(1, 9999, 0), 1);
        Check.refused(x, "brew into a full tank", x.brew(0, 1001, 5), 2);
        Check.due("brew(0, 0, 5) in use", x.brew(0, 0, 5), -2);
        x.lose(0, 1000, 1);
        Check.refused(x, "brew into a dirty tank", x.brew(0, 1, 5), 2);
        x.clean(0);
        Check.refused(x, "brew into a tank being cleaned", x.brew(0, 1, 5), 2);
        x.pass(2);
        Check.due("brew(0, 1, 5)", x.brew(0, 1, 5), 2);
        Check.due("ofTank(0, 2)", x.ofTank(0, 2), 1);
        Check.due("ofTank(0, 1)", x.ofTank(0, 1), 1);
        Check.due("ofBatch(2, 5)", x.ofBatch(2, 5), 2);
    }

    private static void sixteenBatches() {
        BreweryCellar x = new BreweryCellar();
        for (int i = 0; i < 16; i++) {
            Check.due("brew " + i, x.brew(0, 10, i), i);
            x.lose(0, 10, 1);
            x.clean(0);
            x.pass(2);
        }
        Check.due("a 17th batch", x.brew(0, 1, 1), -4);
        Check.due("a 17th batch, too great", x.brew(0, 1001, 1), -4);
        Check.due("a 17th batch of nothing", x.brew(0, 0, 1), -2);
        Check.due("a 17th batch nowhere", x.brew(6, 1, 1), -1);
        Check.due("ofBatch(15, 0)", x.ofBatch(15, 0), 15);
        Check.due("ofBatch(16, 0)", x.ofBatch(16, 0), -1);
        Check.due("ofBatch(15, 4)", x.ofBatch(15, 4), 10);
        x.back();
        x.back();
        x.back();
        x.back();
        Check.due("brew again after undoing", x.brew(0, 10, 7), 15);
        Check.due("ofBatch(15, 0)", x.ofBatch(15, 0), 7);
    }

    private static void transferReasons() {
        BreweryCellar x = new BreweryCellar();
        Check.refused(x, "transfer(0, 0, 0)", x.transfer(0, 0, 0), 1);
        Check.refused(x, "transfer(-1, 0, 0)", x.transfer(-1, 0, 0), 1);
        Check.refused(x, "transfer(0, 6, 5)", x.transfer(0, 6, 5), 1);
        Check.refused(x, "transfer(6, 0, 5)", x.transfer(6, 0, 5), 1);
        Check.refused(x, "transfer(0, -1, 5)", x.transfer(0, -1, 5), 1);
        Check.refused(x, "transfer(0, 1, 0)", x.transfer(0, 1, 0), 8);
        Check.refused(x, "transfer(0, 1, -5)", x.transfer(0, 1, -5), 8);
        Check.refused(x, "transfer(0, 1, 10000)", x.transfer(0, 1, 10000), 8);
        Check.refused(x, "transfer(0, 1, 9999)", x.transfer(0, 1, 9999), 2);
        x.brew(0, 50, 500);
        x.size(1, 10);
        Check.refused(x, "transfer(0, 1, 51)", x.transfer(0, 1, 51), 3);
        Check.refused(x, "transfer(0, 1, 50)", x.transfer(0, 1, 50), 4);
        Check.refused(x, "transfer(1, 0, 51)", x.transfer(1, 0, 51), 2);
        Check.due("count(5)", x.count(5), 2);
        Check.due("account(1)", x.account(1), 50);
        Check.due("entry(-1, 0)", x.entry(-1, 0), 1);
    }

    private static void transferRoom() {
        BreweryCellar x = new BreweryCellar();
        x.setLoss(100);
        x.brew(0, 200, 500);
        x.size(1, 89);
        Check.refused(x, "transfer(0, 1, 100)", x.transfer(0, 1, 100), 4);
        x.size(1, 90);
        Check.due("transfer(0, 1, 100)", x.transfer(0, 1, 100), 90);
        Check.due("ofTank(1, 6)", x.ofTank(1, 6), 0);
        Check.refused(x, "transfer(0, 1, 1)", x.transfer(0, 1, 1), 4);
        Check.due("transfer(1, 0, 90)", x.transfer(1, 0, 90), 81);
        Check.due("ofTank(0, 1)", x.ofTank(0, 1), 181);
        Check.due("account(3)", x.account(3), 19);
    }

    private static void transferStates() {
        BreweryCellar x = new BreweryCellar();
        x.brew(0, 50, 500);
        x.brew(1, 50, 500);
        Check.due("transfer(0, 1, 50)", x.transfer(0, 1, 50), 50);
        Check.due("ofTank(0, 2)", x.ofTank(0, 2), 2);
        Check.due("ofTank(0, 3)", x.ofTank(0, 3), -5);
        Check.refused(x, "transfer into a dirty tank", x.transfer(1, 0, 5), 2);
        Check.refused(x, "too much into a dirty tank", x.transfer(1, 0, 101), 2);
        x.clean(0);
        Check.refused(x, "transfer into a tank being cleaned", x.transfer(1, 0, 5), 2);
        Check.refused(x, "transfer out of a tank being cleaned", x.transfer(0, 1, 5), 2);
        x.pass(2);
        Check.due("transfer(1, 0, 5)", x.transfer(1, 0, 5), 5);
        Check.due("ofTank(0, 2)", x.ofTank(0, 2), 1);
        Check.due("transfer(1, 2, 5)", x.transfer(1, 2, 5), 5);
        Check.due("ofTank(2, 2)", x.ofTank(2, 2), 1);
    }

    /** A cellar without a transfer loss, with litres of batches 0, 1, 2 .. together in the tank 5. */
    private static BreweryCellar blended(int... litres) {
        BreweryCellar x = new BreweryCellar();
        x.setLoss(0);
        for (int i = 0; i < litres.length; i++) {
            x.brew(i, litres[i], 100 * i);
        }
        for (int i = 0; i < litres.length; i++) {
            x.transfer(i, 5, litres[i]);
        }
        return x;
    }

    private static void taken(int amount, int[] litres, int... due) {
        BreweryCellar x = blended(litres);
        x.transfer(5, 4, amount);
        for (int i = 0; i < due.length; i++) {
            String batch = " litres of batch " + i + " of " + amount;
            Check.due("taken" + batch, x.litres(4, i), due[i]);
            Check.due("left" + batch, x.litres(5, i), litres[i] - due[i]);
        }
    }

    private static void proportion() {
        taken(1, new int[] {1, 1, 1}, 1, 0, 0);
        taken(2, new int[] {1, 1, 1}, 1, 1, 0);
        taken(3, new int[] {1, 1, 1}, 1, 1, 1);
        taken(4, new int[] {5, 3}, 3, 1);
        taken(3, new int[] {3, 5}, 1, 2);
        taken(4, new int[] {4, 4}, 2, 2);
        taken(7, new int[] {2, 4, 4}, 1, 3, 3);
        taken(5, new int[] {1, 8, 3}, 1, 3, 1);
        taken(8, new int[] {5, 6, 7}, 2, 3, 3);
        taken(10, new int[] {100, 1, 1}, 10, 0, 0);
        taken(999, new int[] {333, 333, 333}, 333, 333, 333);
    }

    private static void lossOfTransfer() {
        BreweryCellar x = blended(10, 11);
        x.setLoss(100);
        // Of the 5 and 5 litres that are taken the lower batch loses one, though the tank has more of the other.
        Check.due("transfer(5, 4, 10)", x.transfer(5, 4, 10), 9);
        Check.due("litres(4, 0)", x.litres(4, 0), 4);
        Check.due("litres(4, 1)", x.litres(4, 1), 5);
        Check.due("ofBatch(0, 4)", x.ofBatch(0, 4), 1);
        Check.due("ofBatch(1, 4)", x.ofBatch(1, 4), 0);
        BreweryCellar y = new BreweryCellar();
        y.brew(0, 1000, 5);
        Check.due("transfer(0, 1, 199)", y.transfer(0, 1, 199), 199);
        Check.due("transfer(0, 1, 200)", y.transfer(0, 1, 200), 199);
        Check.due("transfer(0, 1, 599)", y.transfer(0, 1, 599), 597);
        Check.due("account(3)", y.account(3), 3);
        Check.due("transfer(0, 1, 1)", y.transfer(0, 1, 1), 1);
        BreweryCellar z = new BreweryCellar();
        z.setLoss(1);
        z.brew(0, 1000, 5);
        Check.due("transfer(0, 1, 999)", z.transfer(0, 1, 999), 999);
        z.back();
        Check.due("transfer(0, 1, 1000)", z.transfer(0, 1, 1000), 999);
    }

    private static void lose() {
        BreweryCellar x = new BreweryCellar();
        x.brew(0, 50, 500);
        Check.refused(x, "lose(6, 0, 0)", x.lose(6, 0, 0), 1);
        Check.refused(x, "lose(-1, 5, 1)", x.lose(-1, 5, 1), 1);
        Check.refused(x, "lose(1, 0, 1)", x.lose(1, 0, 1), 8);
        Check.refused(x, "lose(1, 10000, 1)", x.lose(1, 10000, 1), 8);
        Check.refused(x, "lose(1, 5, 0)", x.lose(1, 5, 0), 8);
        Check.refused(x, "lose(1, 5, 4)", x.lose(1, 5, 4), 8);
        Check.refused(x, "lose(1, 5, -1)", x.lose(1, 5, -1), 8);
        Check.refused(x, "lose(1, 5, 1)", x.lose(1, 5, 1), 2);
        Check.refused(x, "lose(0, 51, 1)", x.lose(0, 51, 1), 3);
        Check.refused(x, "lose(0, 10000, 1)", x.lose(0, 10000, 1), 8);
        Check.due("lose(0, 10, 1)", x.lose(0, 10, 1), 40);
        Check.due("lose(0, 7, 2)", x.lose(0, 7, 2), 33);
        Check.due("lose(0, 5, 3)", x.lose(0, 5, 3), 28);
        Check.due("account(3)", x.account(3), 0);
        Check.due("account(4)", x.account(4), 10);
        Check.due("account(5)", x.account(5), 7);
        Check.due("account(6)", x.account(6), 5);
        Check.due("lose(0, 28, 3)", x.lose(0, 28, 3), 0);
        Check.due("ofTank(0, 2)", x.ofTank(0, 2), 2);
        Check.refused(x, "lose of a dirty tank", x.lose(0, 1, 3), 2);
        BreweryCellar y = blended(5, 3);
        y.lose(5, 4, 2);
        Check.due("ofBatch(0, 4)", y.ofBatch(0, 4), 3);
        Check.due("ofBatch(1, 4)", y.ofBatch(1, 4), 1);
    }

    private static void setLoss() {
        BreweryCellar x = new BreweryCellar();
        Check.due("setLoss(-1)", x.setLoss(-1), -2);
        Check.due("setLoss(101)", x.setLoss(101), -2);
        Check.due("setLoss(100)", x.setLoss(100), 5);
        Check.due("count(6)", x.count(6), 100);
        Check.due("setLoss(0)", x.setLoss(0), 100);
        Check.due("setLoss(3)", x.setLoss(3), 0);
    }

    private static void clean() {
        BreweryCellar x = new BreweryCellar();
        x.pass(7);
        Check.refused(x, "clean(-1)", x.clean(-1), 1);
        Check.refused(x, "clean(6)", x.clean(6), 1);
        Check.refused(x, "clean of a clean tank", x.clean(0), 7);
        x.brew(0, 5, 5);
        Check.refused(x, "clean of a tank in use", x.clean(0), 7);
        x.lose(0, 5, 1);
        Check.due("clean(0)", x.clean(0), 9);
        Check.refused(x, "clean of a tank being cleaned", x.clean(0), 7);
        Check.due("ofTank(0, 2)", x.ofTank(0, 2), 3);
        Check.due("ofTank(0, 4)", x.ofTank(0, 4), 9);
    }

    private static void pass() {
        BreweryCellar x = new BreweryCellar();
        for (int i = 0; i < 4; i++) {
            x.brew(i, 5, 5);
            x.lose(i, 5, 1);
        }
        x.clean(0);
        x.clean(1);
        Check.refused(x, "pass(0)", x.pass(0), 8);
        Check.refused(x, "pass(-1)", x.pass(-1), 8);
        Check.refused(x, "pass(1000)", x.pass(1000), 8);
        Check.refused(x, "pass(max)", x.pass(Integer.MAX_VALUE), 8);
        Check.due("pass(1)", x.pass(1), 0);
        x.clean(2);
        Check.due("ofTank(0, 2)", x.ofTank(0, 2), 3);
        Check.due("pass(1)", x.pass(1), 2);
        Check.due("ofTank(0, 2)", x.ofTank(0, 2), 0);
        Check.due("ofTank(0, 4)", x.ofTank(0, 4), -5);
        Check.due("ofTank(2, 4)", x.ofTank(2, 4), 3);
        Check.due("pass(999)", x.pass(999), 1);
        Check.due("ofTank(3, 2)", x.ofTank(3, 2), 2);
        Check.due("count(0)", x.count(0), 1001);
    }

    private static void lastDay() {
        BreweryCellar x = new BreweryCellar();
        for (int i = 0; i < 10; i++) {
            x.pass(999);
        }
        Check.due("count(0)", x.count(0), 9990);
        Check.refused(x, "pass(10)", x.pass(10), 8);
        Check.due("pass(9)", x.pass(9), 0);
        Check.refused(x, "pass(1)", x.pass(1), 8);
        Check.due("order(99, 1, 0, 0)", x.order(99, 1, 0, 0), 0);
        Check.due("ofOrder(0, 0)", x.ofOrder(0, 0), 10098);
        x.brew(0, 5, 5);
        x.lose(0, 5, 1);
        Check.due("clean(0)", x.clean(0), 10001);
    }

    private static void ofTank() {
        BreweryCellar x = blended(10, 11, 12);
        Check.due("ofTank(-1, 0)", x.ofTank(-1, 0), -1);
        Check.due("ofTank(6, 0)", x.ofTank(6, 0), -1);
        Check.due("ofTank(0, -1)", x.ofTank(0, -1), -1);
        Check.due("ofTank(0, 7)", x.ofTank(0, 7), -1);
        Check.due("ofTank(5, 0)", x.ofTank(5, 0), 1000);
        Check.due("ofTank(5, 1)", x.ofTank(5, 1), 33);
        Check.due("ofTank(5, 2)", x.ofTank(5, 2), 1);
        Check.due("ofTank(5, 3)", x.ofTank(5, 3), 106);
        Check.due("ofTank(5, 4)", x.ofTank(5, 4), -5);
        Check.due("ofTank(5, 5)", x.ofTank(5, 5), 3);
        Check.due("ofTank(5, 6)", x.ofTank(5, 6), 967);
        Check.due("ofTank(0, 6) of a dirty tank", x.ofTank(0, 6), 1000);
        Check.due("ofTank(0, 5)", x.ofTank(0, 5), 0);
    }

    private static void litres() {
        BreweryCellar x = blended(10, 11);
        Check.due("litres(5, 0)", x.litres(5, 0), 10);
        Check.due("litres(5, 1)", x.litres(5, 1), 11);
        Check.due("litres(0, 0)", x.litres(0, 0), 0);
        Check.due("litres(5, 2)", x.litres(5, 2), -1);
        Check.due("litres(5, -1)", x.litres(5, -1), -1);
        Check.due("litres(-1, 0)", x.litres(-1, 0), -1);
        Check.due("litres(6, 0)", x.litres(6, 0), -1);
        Check.due("litres(5, max)", x.litres(5, Integer.MAX_VALUE), -1);
    }

    private static void ofBatch() {
        BreweryCellar x = new BreweryCellar();
        x.pass(3);
        x.brew(0, 500, 450);
        x.pass(1);
        x.brew(1, 40, 2000);
        x.transfer(0, 2, 200);
        x.transfer(0, 5, 100);
        x.lose(2, 9, 1);
        x.order(0, 30, 0, 2000);
        x.fill(5, 0);
        int[] due = {450, 500, 460, 30, 10, 3, 1 + 4 + 32};
        for (int what = 0; what < due.length; what++) {
            Check.due("ofBatch(0, " + what + ")", x.ofBatch(0, what), due[what]);
        }
        Check.due("ofBatch(1, 5)", x.ofBatch(1, 5), 4);
        Check.due("ofBatch(1, 6)", x.ofBatch(1, 6), 2);
        x.transfer(1, 4, 39);
        Check.due("ofBatch(1, 6) with one litre left", x.ofBatch(1, 6), 2 + 16);
        Check.due("ofBatch(0, -1)", x.ofBatch(0, -1), -1);
        Check.due("ofBatch(0, 7)", x.ofBatch(0, 7), -1);
        Check.due("ofBatch(2, 0)", x.ofBatch(2, 0), -1);
        Check.due("ofBatch(-1, 0)", x.ofBatch(-1, 0), -1);
    }
}
