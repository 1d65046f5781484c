/** Promises 26, 27 and 31: the journal, the accounts and the counts. */
final class RecordsTest {
    public static void main(String[] args) {
        entries();
        eightyEntries();
        accounts();
        accountsAddUp();
        counts();
        Check.finish();
    }

    private static void entry(BreweryCellar x, int i, int... due) {
        for (int what = 0; what < due.length; what++) {
            Check.due("entry(" + i + ", " + what + ")", x.entry(i, what), due[what]);
        }
    }

    private static void entries() {
        BreweryCellar x = new BreweryCellar();
        x.brew(3, 400, 500);
        x.pass(2);
        x.transfer(3, 1, 200);
        x.transfer(3, 1, 100);
        x.pass(1);
        x.lose(1, 9, 2);
        x.order(0, 20, 0, 2000);
        x.fill(1, 0);
        x.size(0, 7);
        x.setLoss(6);
        Check.due("entry(-1, 0)", x.entry(-1, 0), 8);
        Check.due("entry(-1, -7)", x.entry(-1, -7), 8);
        Check.due("entry(-1, 99)", x.entry(-1, 99), 8);
        entry(x, 0, 0, 0, 3, 400);
        entry(x, 1, 2, 1, 3, 200);
        entry(x, 2, 2, 3, 3, 1);
        entry(x, 3, 2, 2, 1, 199);
        entry(x, 4, 2, 1, 3, 100);
        entry(x, 5, 2, 2, 1, 100);
        entry(x, 6, 3, 3, 1, 9);
        entry(x, 7, 3, 4, 1, 20);
        Check.due("entry(8, 0)", x.entry(8, 0), -1);
        Check.due("entry(-2, 0)", x.entry(-2, 0), -1);
        Check.due("entry(0, -1)", x.entry(0, -1), -1);
        Check.due("entry(0, 4)", x.entry(0, 4), -1);
        x.back();
        x.back();
        Check.due("entry(-1, 0)", x.entry(-1, 0), 8);
        x.back();
        Check.due("entry(-1, 0)", x.entry(-1, 0), 7);
        Check.due("entry(7, 0)", x.entry(7, 0), -1);
    }

    private static void eightyEntries() {
        BreweryCellar x = new BreweryCellar();
        x.brew(0, 1000, 500);
        for (int i = 1; i < 90; i++) {
            x.lose(0, i % 10 + 1, 1);
        }
        Check.due("entry(-1, 0)", x.entry(-1, 0), 90);
        Check.due("entry(79, 3)", x.entry(79, 3), 10);
        Check.due("entry(80, 3)", x.entry(80, 3), -1);
        Check.due("entry(89, 3)", x.entry(89, 3), -1);
        Check.due("entry(max, 3)", x.entry(Integer.MAX_VALUE, 3), -1);
        x.back();
        Check.due("entry(-1, 0)", x.entry(-1, 0), 89);
        Check.due("entry(1, 3)", x.entry(1, 3), 2);
        BreweryCellar y = new BreweryCellar();
        y.brew(0, 1000, 500);
        for (int i = 1; i < 80; i++) {
            y.lose(0, 3, 1);
        }
        y.image();
        y.back();
        y.lose(0, 4, 2);
        Check.due("entry(79, 3)", y.entry(79, 3), 4);
        y.undo();
        Check.due("entry(79, 3)", y.entry(79, 3), 3);
    }

    private static void accounts() {
        BreweryCellar x = new BreweryCellar();
        x.brew(0, 600, 500);
        x.brew(1, 300, 1100);
        x.transfer(0, 2, 400);
        x.lose(0, 10, 1);
        x.lose(0, 20, 2);
        x.lose(1, 40, 3);
        x.order(0, 100, 0, 2000);
        x.order(0, 50, 0, 2000);
        x.order(0, 5, 0, 2000);
        x.order(0, 6, 0, 2000);
        x.fill(1, 0);
        x.drop(1);
        long[] due = {
            900, 728, 100, 2, 10, 20, 40,
            630000, 568 * 500 + 160 * 1100, 110000, 32 * 500 + 40 * 1100, 2, 11
        };
        for (int what = 0; what < due.length; what++) {
            Check.due("account(" + what + ")", x.account(what), due[what]);
        }
        x.back();
        Check.due("account(11)", x.account(11), 3);
        Check.due("account(12)", x.account(12), 61);
        x.back();
        Check.due("account(12)", x.account(12), 161);
        Check.due("account(-1)", x.account(-1), Long.MIN_VALUE);
        Check.due("account(13)", x.account(13), Long.MIN_VALUE);
    }

    private static void accountsAddUp() {
        BreweryCellar x = new BreweryCellar();
        x.setLoss(73);
        for (int tank = 0; tank < 4; tank++) {
            x.brew(tank, 100 + 97 * tank, 333 * tank + 1);
        }
        for (int i = 0; i < 40; i++) {
            x.transfer(i % 4, (i * 3 + 1) % 5, 17 + i);
            x.lose((i + 2) % 5, 3, i % 3 + 1);
            long litres = x.account(1) + x.account(2) + x.account(3) + x.account(4) + x.account(5) + x.account(6);
            Check.due("litres in all", litres, x.account(0));
            Check.due("alcohol in all", x.account(8) + x.account(9) + x.account(10), x.account(7));
        }
        Check.holds("litres were lost by transfers", x.account(3) > 20);
    }

    private static void counts() {
        BreweryCellar x = new BreweryCellar();
        x.pass(3);
        x.brew(0, 5, 5);
        x.brew(1, 5, 5);
        x.lose(1, 5, 1);
        x.brew(2, 5, 5);
        x.lose(2, 5, 1);
        x.clean(2);
        x.order(0, 1, 0, 0);
        x.order(0, 1, 0, 0);
        x.drop(0);
        x.rate(0, 0, 0);
        x.setLoss(9);
        x.feed(4, 'd', '1', ';', 'd', 0);
        int[] due = {3, 3, 2, 1, 4, 6, 9, -1, -1, -1, 3, 1, 1, 1, -1};
        for (int what = 0; what < due.length; what++) {
            Check.due("count(" + what + ")", x.count(what), due[what]);
        }
        Check.due("count(-1)", x.count(-1), -1);
        Check.due("count(min)", x.count(Integer.MIN_VALUE), -1);
    }
}
