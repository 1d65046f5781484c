/** Promises 28 to 30: changes that are undone, and the snapshot. */
final class ChangesTest {
    public static void main(String[] args) {
        everyChangeIsUndone();
        sixAtMost();
        undoneChangesMakeRoom();
        refusedCallsAreNoChanges();
        questionsAreNoChanges();
        snapshot();
        snapshotLeavesOut();
        snapshotStaysWhenChangesAreUndone();
        placesThatWereUsedAgain();
        Check.finish();
    }

    /** A number that differs when something of the state does. */
    private static long mark(BreweryCellar x) {
        long mark = 0;
        for (int what = 0; what < 7; what++) {
            for (int i = 0; i < 16; i++) {
                mark = mark * 31 + x.ofTank(i, what);
                mark = mark * 31 + x.ofBatch(i, what);
                mark = mark * 31 + x.ofOrder(i, what);
                mark = mark * 31 + x.litres(what, i);
            }
            mark = mark * 31 + x.planned(what);
            mark = mark * 31 + x.excise(what);
            mark = mark * 31 + (what == 4 || what == 5 ? 0 : x.count(what));
        }
        for (int i = -1; i < 80; i++) {
            for (int what = 0; what < 4; what++) {
                mark = mark * 31 + x.entry(i, what);
            }
        }
        for (int what = 0; what < 13; what++) {
            mark = mark * 31 + x.account(what);
        }
        for (int i = 0; i < 50; i++) {
            mark = mark * 31 + x.holds(i, i * 40);
        }
        return mark;
    }

    private static BreweryCellar busy() {
        BreweryCellar x = new BreweryCellar();
        x.rate(0, 0, 500);
        x.brew(0, 700, 500);
        x.brew(1, 300, 900);
        x.brew(2, 5, 100);
        x.transfer(0, 3, 200);
        x.transfer(1, 3, 100);
        x.lose(2, 5, 1);
        x.order(2, 50, 0, 2000);
        x.order(1, 60, 0, 700);
        x.order(0, 70, 1500, 2000);
        x.order(0, 5, 0, 2000);
        x.pass(1);
        x.fill(3, 3);
        x.rate(0, 300, 900);
        return x;
    }

    private static int change(BreweryCellar x, int which) {
        switch (which) {
            case 0: return x.size(4, 77);
            case 1: return x.brew(5, 70, 2000);
            case 2: return x.transfer(3, 4, 222);
            case 3: return x.lose(0, 33, 2);
            case 4: return x.setLoss(77);
            case 5: return x.rate(1, 400, 5);
            case 6: return x.order(0, 5, 0, 1000);
            case 7: return x.drop(2);
            case 8: return x.fill(0, 0);
            case 9: return x.fillAll();
            case 10: return x.clean(2);
            case 11: return x.pass(3);
            case 12: return x.correct();
            default:
                x.feed(5, 'd', '1', ';', 'c', '2');
                return x.run();
        }
    }

    private static void everyChangeIsUndone() {
        for (int which = 0; which < 14; which++) {
            BreweryCellar x = busy();
            Check.due("count(5)", x.count(5), 6);
            x.image();
            x.undo();
            long before = mark(x);
            Check.holds("change " + which + " is done", change(x, which) >= 0);
            Check.due("count(5) after change " + which, x.count(5), 1);
            Check.holds("change " + which + " is seen", mark(x) != before);
            Check.due("back() after change " + which, x.back(), 0);
            Check.due("the state after undoing change " + which, mark(x), before);
            Check.due("back() without a change", x.back(), -3);
        }
    }

    private static void sixAtMost() {
        BreweryCellar x = new BreweryCellar();
        for (int i = 1; i <= 9; i++) {
            x.pass(1);
            Check.due("count(5) after " + i, x.count(5), Math.min(i, 6));
        }
        for (int i = 5; i >= 0; i--) {
            Check.due("back()", x.back(), i);
            Check.due("count(0)", x.count(0), i + 3);
            Check.due("count(5)", x.count(5), i);
        }
        Check.due("back()", x.back(), -3);
        Check.due("reason()", x.reason(), -5);
        Check.due("count(0)", x.count(0), 3);
    }

    private static void undoneChangesMakeRoom() {
        BreweryCellar x = new BreweryCellar();
        for (int i = 0; i < 8; i++) {
            x.pass(1);
        }
        x.back();
        x.back();
        x.pass(10);
        Check.due("count(5)", x.count(5), 5);
        x.pass(100);
        x.pass(100);
        Check.due("count(5)", x.count(5), 6);
        int[] days = {116, 16, 6, 5, 4, 3};
        for (int i = 0; i < days.length; i++) {
            x.back();
            Check.due("count(0)", x.count(0), days[i]);
        }
        Check.due("back()", x.back(), -3);
    }

    private static void refusedCallsAreNoChanges() {
        BreweryCellar x = new BreweryCellar();
        for (int i = 1; i <= 7; i++) {
            x.pass(1);
        }
        x.size(0, 0);
        x.brew(0, 5, -1);
        x.brew(0, 1001, 1);
        x.transfer(0, 1, 5);
        x.lose(0, 5, 1);
        x.setLoss(-1);
        x.rate(-1, 0, 0);
        x.order(-1, 0, 0, 0);
        x.drop(0);
        x.fill(0, 0);
        x.clean(0);
        x.pass(0);
        x.run();
        x.feed(2, 'd', '0', 0, 0, 0);
        x.run();
        Check.due("count(5)", x.count(5), 6);
        for (int i = 6; i >= 1; i--) {
            x.back();
            Check.due("count(0)", x.count(0), i);
        }
        Check.due("back()", x.back(), -3);
    }

    private static void questionsAreNoChanges() {
        BreweryCellar x = busy();
        x.image();
        x.undo();
        long before = mark(x);
        x.mix(0, 1, 50, 600);
        x.planned(0);
        x.ofOrder(0, 5);
        x.feed(1, 'x', 0, 0, 0, 0);
        x.image();
        Check.due("count(5)", x.count(5), 0);
        Check.due("the state after questions", mark(x), before);
    }

    private static void snapshot() {
        BreweryCellar x = busy();
        x.pass(4);
        Check.due("image()", x.image(), 5);
        Check.due("count(5)", x.count(5), 6);
        long before = mark(x);
        for (int round = 0; round < 2; round++) {
            for (int which = 0; which < 14; which++) {
                change(x, which);
            }
            Check.holds("the state differs", mark(x) != before);
            Check.due("undo()", x.undo(), 5);
            Check.due("the state after undo()", mark(x), before);
            Check.due("count(5)", x.count(5), 0);
            Check.due("back()", x.back(), -3);
        }
        x.pass(2);
        Check.due("image()", x.image(), 7);
        x.pass(2);
        Check.due("undo()", x.undo(), 7);
        Check.due("count(0)", x.count(0), 7);
    }

    private static void snapshotLeavesOut() {
        BreweryCellar x = new BreweryCellar();
        x.feed(2, 'd', '5', 0, 0, 0);
        x.clean(0);
        x.image();
        x.feed(1, '0', 0, 0, 0, 0);
        x.clean(6);
        Check.due("undo()", x.undo(), 0);
        Check.due("count(4)", x.count(4), 3);
        Check.due("reason()", x.reason(), 1);
        Check.due("run()", x.run(), 1);
        Check.due("count(0)", x.count(0), 50);
        Check.due("undo()", x.undo(), 0);
        Check.due("count(4)", x.count(4), 0);
    }

    private static void snapshotStaysWhenChangesAreUndone() {
        BreweryCellar x = new BreweryCellar();
        Check.due("undo()", x.undo(), -3);
        x.pass(1);
        x.pass(1);
        Check.due("image()", x.image(), 2);
        Check.due("back()", x.back(), 1);
        Check.due("back()", x.back(), 0);
        Check.due("count(0)", x.count(0), 0);
        Check.due("undo()", x.undo(), 2);
        Check.due("back()", x.back(), -3);
        Check.due("reason()", x.reason(), -5);
    }

    /** What was told, undone and told anew in another way is as it was when the snapshot comes back. */
    private static void placesThatWereUsedAgain() {
        BreweryCellar x = new BreweryCellar();
        x.brew(0, 1, 0);
        x.lose(0, 1, 1);
        x.brew(1, 900, 500);
        x.clean(0);
        x.rate(0, 400, 100);
        x.order(1, 30, 100, 1000);
        x.fill(1, 0);
        x.image();
        long before = mark(x);
        for (int i = 0; i < 5; i++) {
            x.back();
        }
        Check.due("count(1)", x.count(1), 1);
        x.pass(7);
        x.brew(2, 800, 600);
        x.clean(0);
        x.rate(1, 300, 900);
        x.order(2, 40, 200, 900);
        x.pass(1);
        x.fill(2, 0);
        Check.due("ofTank(0, 4)", x.ofTank(0, 4), 9);
        Check.due("ofOrder(0, 6)", x.ofOrder(0, 6), 2160);
        Check.due("undo()", x.undo(), 0);
        Check.due("the state after undo()", mark(x), before);
        Check.due("ofTank(0, 4)", x.ofTank(0, 4), 2);
        Check.due("ofBatch(1, 0)", x.ofBatch(1, 0), 500);
        Check.due("ofBatch(1, 5)", x.ofBatch(1, 5), 0);
        Check.due("ofOrder(0, 0)", x.ofOrder(0, 0), 1);
        Check.due("ofOrder(0, 1)", x.ofOrder(0, 1), 30);
        Check.due("ofOrder(0, 2)", x.ofOrder(0, 2), 100);
        Check.due("ofOrder(0, 3)", x.ofOrder(0, 3), 1000);
        Check.due("ofOrder(0, 6)", x.ofOrder(0, 6), 150);
        Check.due("excise(1)", x.excise(1), 150);
        Check.due("excise(3)", x.excise(3), 0);
        Check.due("holds(0, 399)", x.holds(0, 399), -5);
        Check.due("holds(0, 400)", x.holds(0, 400), 0);
        Check.due("entry(2, 3)", x.entry(2, 3), 900);
        x.rate(1, 400, 999);
        x.rate(0, 501, 999);
        Check.due("excise(1)", x.excise(1), 150);
    }
}
