/** Journal, accounts and counts: promises 26, 27 and 31. A test below a quotation is about that sentence. */
final class RecordsTest {
    public static void main(String[] args) {
        numberOfEntries();
        eachKindOfEntry();
        transferWithoutLoss();
        selectorsOfEntries();
        firstEightyEntriesAreKept();
        transferAtTheEndOfWhatIsKept();
        undoneEntriesMakeRoom();
        whatMakesNoEntry();
        accounts();
        accountsOfNothing();
        accountsOfTheMostThatThereCanBe();
        accountsAddUp();
        selectorsOfAccounts();
        counts();
        tanksInEachState();
        selectorsOfCounts();
        Check.finish();
    }

    private static void entry(BreweryCellar x, int i, int... due) {
        for (int what = 0; what < due.length; what++) {
            Check.due("entry(" + i + ", " + what + ")", x.entry(i, what), due[what]);
        }
    }

    /** A cellar with a brewing and then losses: the entry i is of 1 + i % 10 litres, but for the first one. */
    private static BreweryCellar entries(int number) {
        BreweryCellar x = Scenes.brewed(9999, 500);
        for (int i = 1; i < number; i++) {
            x.lose(0, 1 + i % 10, 1);
        }
        return x;
    }

    /** "-1 for the number of all entries"; "any value for the number of entries". */
    private static void numberOfEntries() {
        for (int what : new int[] {-1, 0, 3, 4, Integer.MIN_VALUE, Integer.MAX_VALUE}) {
            Twins.unchanged("entry(-1, " + what + ") of nothing", BreweryCellar::new, 0, x -> x.entry(-1, what));
            Twins.unchanged("entry(-1, " + what + ")", () -> entries(3), 3, x -> x.entry(-1, what));
        }
    }

    /** "Each of these makes an entry with a day, a kind, a tank and litres". */
    private static void eachKindOfEntry() {
        BreweryCellar x = new BreweryCellar();
        x.pass(7);
        x.brew(3, 400, 500);
        x.pass(2);
        x.transfer(3, 1, 200);
        x.pass(1);
        x.lose(1, 9, 2);
        x.order(0, 20, 0, 2000);
        x.fill(1, 0);
        x.order(0, 30, 0, 2000);
        x.pass(1);
        x.fillAll();
        entry(x, 0, 7, 0, 3, 400);
        entry(x, 1, 9, 1, 3, 200);
        entry(x, 2, 9, 3, 3, 1);
        entry(x, 3, 9, 2, 1, 199);
        entry(x, 4, 10, 3, 1, 9);
        entry(x, 5, 10, 4, 1, 20);
        entry(x, 6, 11, 4, 1, 30);
        Check.due("entry(-1, 0)", x.entry(-1, 0), 7);
    }

    /** "A transfer makes 1, then 3 if something is lost by it, then 2." */
    private static void transferWithoutLoss() {
        BreweryCellar x = Scenes.brewed(1000, 500);
        x.transfer(0, 5, 199);
        entry(x, 1, 0, 1, 0, 199);
        entry(x, 2, 0, 2, 5, 199);
        Check.due("entry(-1, 0)", x.entry(-1, 0), 3);
        x.transfer(0, 5, 200);
        entry(x, 3, 0, 1, 0, 200);
        entry(x, 4, 0, 3, 0, 1);
        entry(x, 5, 0, 2, 5, 199);
        Check.due("entry(-1, 0)", x.entry(-1, 0), 6);
        Check.due("run()", Scenes.run(x, "t0>4:400"), 1);
        entry(x, 6, 0, 1, 0, 400);
        entry(x, 7, 0, 3, 0, 2);
        entry(x, 8, 0, 2, 4, 398);
    }

    /** "NONE if no such entry is kept or what is invalid." */
    private static void selectorsOfEntries() {
        for (int i : new int[] {-2, 3, 79, 80, Integer.MIN_VALUE, Integer.MAX_VALUE}) {
            for (int what : new int[] {0, 3, -1, 4}) {
                Twins.unchanged("entry(" + i + ", " + what + ")", () -> entries(3), -1, x -> x.entry(i, what));
            }
        }
        for (int what : new int[] {-1, 4, Integer.MIN_VALUE, Integer.MAX_VALUE}) {
            Twins.unchanged("entry(0, " + what + ")", () -> entries(3), -1, x -> x.entry(0, what));
            Twins.unchanged("entry(2, " + what + ")", () -> entries(3), -1, x -> x.entry(2, what));
        }
        Twins.unchanged("entry(2, 3)", () -> entries(3), 3, x -> x.entry(2, 3));
        Twins.unchanged("entry(0, 0) of nothing", BreweryCellar::new, -1, x -> x.entry(0, 0));
    }

    /** "The first 80 entries are kept"; the number of all entries counts "also those that are not kept". */
    private static void firstEightyEntriesAreKept() {
        for (int number : new int[] {79, 80, 81, 90, 200}) {
            BreweryCellar x = entries(number);
            Check.due("entry(-1, 0)", x.entry(-1, 0), number);
            entry(x, 0, 0, 0, 0, 9999);
            entry(x, 78, 0, 3, 0, 9);
            if (number >= 80) {
                entry(x, 79, 0, 3, 0, 10);
            } else {
                entry(x, 79, -1, -1, -1, -1);
            }
            entry(x, 80, -1, -1, -1, -1);
            entry(x, number - 1 > 80 ? number - 1 : 81, -1, -1, -1, -1);
            entry(x, number, -1, -1, -1, -1);
        }
    }

    private static void transferAtTheEndOfWhatIsKept() {
        BreweryCellar x = entries(79);
        x.transfer(0, 1, 200);
        Check.due("entry(-1, 0)", x.entry(-1, 0), 82);
        entry(x, 79, 0, 1, 0, 200);
        entry(x, 80, -1, -1, -1, -1);
        entry(x, 81, -1, -1, -1, -1);
        BreweryCellar y = entries(78);
        y.transfer(0, 1, 200);
        entry(y, 78, 0, 1, 0, 200);
        entry(y, 79, 0, 3, 0, 1);
        entry(y, 80, -1, -1, -1, -1);
        Check.due("account(3)", y.account(3), 1);
    }

    /** "Changes that were undone make room." */
    private static void undoneEntriesMakeRoom() {
        BreweryCellar x = entries(80);
        x.image();
        x.back();
        Check.due("entry(-1, 0)", x.entry(-1, 0), 79);
        entry(x, 79, -1, -1, -1, -1);
        x.lose(0, 77, 2);
        entry(x, 79, 0, 3, 0, 77);
        x.undo();
        entry(x, 79, 0, 3, 0, 10);
        BreweryCellar y = entries(82);
        y.back();
        y.back();
        Check.due("entry(-1, 0)", y.entry(-1, 0), 80);
        entry(y, 79, 0, 3, 0, 10);
        y.back();
        y.pass(5);
        y.lose(0, 66, 3);
        entry(y, 79, 5, 3, 0, 66);
    }

    private static void whatMakesNoEntry() {
        BreweryCellar x = entries(2);
        x.size(1, 5);
        x.setLoss(6);
        x.rate(0, 0, 5);
        x.order(0, 5, 0, 1);
        x.fillAll();
        x.drop(0);
        x.correct();
        x.lose(0, 9900, 1);
        x.clean(0);
        x.pass(9);
        x.image();
        x.mix(0, 1, 5, 5);
        x.fill(1, 0);
        x.lose(1, 5, 1);
        x.transfer(1, 2, 5);
        x.brew(1, 6, 5);
        Check.due("entry(-1, 0)", x.entry(-1, 0), 3);
    }

    private static void accounts() {
        BreweryCellar x = new BreweryCellar();
        x.brew(0, 600, 500);
        x.brew(1, 300, 1100);
        x.transfer(0, 2, 400);
        x.lose(0, 10, 1);
        x.lose(0, 20, 2);
        x.lose(1, 40, 3);
        x.order(0, 100, 0, 2000);
        x.order(0, 50, 0, 2000);
        x.order(0, 5, 0, 2000);
        x.order(0, 6, 0, 2000);
        x.fill(1, 0);
        x.drop(1);
        long[] due = {
            900, 728, 100, 2, 10, 20, 40,
            630000, 568 * 500 + 160 * 1100, 110000, 32 * 500 + 40 * 1100, 2, 11
        };
        for (int what = 0; what < due.length; what++) {
            Check.due("account(" + what + ")", x.account(what), due[what]);
        }
        x.back();
        Check.due("account(11)", x.account(11), 3);
        Check.due("account(12)", x.account(12), 61);
        x.back();
        Check.due("account(12)", x.account(12), 161);
    }

    /** Nothing there, and everything gone. */
    private static void accountsOfNothing() {
        BreweryCellar x = new BreweryCellar();
        for (int what = 0; what <= 12; what++) {
            Check.due("account(" + what + ") of nothing", x.account(what), 0);
        }
        x.brew(0, 100, 500);
        x.order(0, 60, 0, 2000);
        x.fill(0, 0);
        x.lose(0, 40, 1);
        long[] due = {100, 0, 60, 0, 40, 0, 0, 50000, 0, 30000, 20000, 0, 0};
        for (int what = 0; what < due.length; what++) {
            Check.due("account(" + what + ") when all is gone", x.account(what), due[what]);
        }
    }

    /** 16 batches and 10 orders of the greatest litres, the greatest strength and the greatest duty. */
    private static void accountsOfTheMostThatThereCanBe() {
        BreweryCellar x = new BreweryCellar();
        x.size(0, 9999);
        x.rate(0, 0, 9999);
        for (int i = 0; i < 10; i++) {
            x.order(0, 9999, 0, 2000);
        }
        Check.due("account(11)", x.account(11), 10);
        Check.due("account(12)", x.account(12), 99990);
        for (int i = 0; i < 16; i++) {
            x.brew(0, 9999, 2000);
            if (i < 10) {
                x.fill(0, i);
            } else {
                x.lose(0, 9999, i % 3 + 1);
            }
            x.clean(0);
            x.pass(2);
        }
        long[] due = {159984, 0, 99990, 0, 19998, 19998, 19998, 319968000, 0, 199980000, 119988000, 0, 0};
        for (int what = 0; what < due.length; what++) {
            Check.due("account(" + what + ") of the most", x.account(what), due[what]);
        }
        Check.due("excise(0)", x.excise(0), 199960010);
        Check.due("excise(1)", x.excise(1), 199960010);
        Check.due("entry(-1, 0)", x.entry(-1, 0), 32);
    }

    /** The class keeps "accounts that add up". */
    private static void accountsAddUp() {
        BreweryCellar x = new BreweryCellar();
        x.setLoss(73);
        for (int tank = 0; tank < 4; tank++) {
            x.brew(tank, 100 + 97 * tank, 333 * tank + 1);
            x.order(tank, 20 + tank, 0, 2000);
        }
        for (int i = 0; i < 25; i++) {
            x.transfer(i % 4, (i * 3 + 1) % 5, 17 + i);
            x.lose((i + 2) % 5, 3, i % 3 + 1);
            x.fill(i % 5, i / 5 - 1);
            long litres = x.account(1) + x.account(2) + x.account(3) + x.account(4) + x.account(5) + x.account(6);
            Check.due("litres in all", litres, x.account(0));
            Check.due("alcohol in all", x.account(8) + x.account(9) + x.account(10), x.account(7));
        }
        Check.holds("litres were lost by transfers", x.account(3) > 20);
        Check.holds("orders were filled", x.account(2) > 20);
    }

    /** account: "Long.MIN_VALUE if what is invalid." */
    private static void selectorsOfAccounts() {
        for (int what : new int[] {-1, 13, Integer.MIN_VALUE, Integer.MAX_VALUE}) {
            Twins.unchanged("account(" + what + ")", Scenes::tanks, Long.MIN_VALUE, x -> x.account(what));
        }
        long[] due = {870, 800, 50, 0, 10, 10, 0, 864010, 840000, 24000, 10, 1, 100};
        for (int what = 0; what < due.length; what++) {
            int asked = what;
            Twins.unchanged("account(" + what + ")", Scenes::tanks, due[what], x -> x.account(asked));
        }
    }

    private static void counts() {
        int[] due = {3, 4, 3, 2, 2, 6, 5, -1, -1, -1, 2, 2, 1, 1, -1};
        for (int what = 0; what < due.length; what++) {
            int asked = what;
            Twins.unchanged("count(" + what + ")", Scenes::tanks, due[what], x -> x.count(asked));
        }
        BreweryCellar x = Scenes.sixteenBatches();
        Check.due("count(1) of all", x.count(1), 16);
    }

    /** "10 + s the tanks in the state s". */
    private static void tanksInEachState() {
        BreweryCellar x = new BreweryCellar();
        for (int tank = 0; tank < 6; tank++) {
            states(x, 6 - tank, tank, 0, 0);
            x.brew(tank, 5, 5);
        }
        for (int tank = 0; tank < 6; tank++) {
            states(x, 0, 6 - tank, tank, 0);
            x.lose(tank, 5, 1);
        }
        for (int tank = 0; tank < 6; tank++) {
            states(x, 0, 0, 6 - tank, tank);
            x.clean(tank);
        }
        states(x, 0, 0, 0, 6);
        x.pass(2);
        states(x, 6, 0, 0, 0);
    }

    private static void states(BreweryCellar x, int... due) {
        for (int state = 0; state <= 3; state++) {
            Check.due("count(1" + state + ")", x.count(10 + state), due[state]);
        }
    }

    /** count: "NONE if what is invalid." */
    private static void selectorsOfCounts() {
        for (int what : new int[] {-1, 7, 8, 9, 14, 15, Integer.MIN_VALUE, Integer.MAX_VALUE}) {
            Twins.unchanged("count(" + what + ")", Scenes::tanks, -1, x -> x.count(what));
        }
    }
}
