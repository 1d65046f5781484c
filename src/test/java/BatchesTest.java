import java.util.Arrays;

/** Batches and proportion: promises 3, 18 and 19. A test below a quotation is about that sentence. */
final class BatchesTest {
    public static void main(String[] args) {
        sixteenBatchesAtMost();
        undoneBatchesMakeRoom();
        litresBrewedAreFrom1To9999();
        strengthIsFrom0To2000();
        onlyIntoCleanTank();
        atMostUpToTheSize();
        noSuchTank();
        errorsOfBrewInTheirOrder();
        strengthNeverChanges();
        takenInProportion();
        greatTanksInProportion();
        sixteenBatchesInProportion();
        whateverIsTakenOutIsTakenInProportion();
        litresOfBatch();
        noSuchTankOrBatch();
        numbersOfBatch();
        selectorsOfBatches();
        tanksAsSet();
        Check.finish();
    }

    /** "At most 16 batches can be brewed, numbered from 0." "FULL if there are 16 batches". */
    private static void sixteenBatchesAtMost() {
        BreweryCellar x = new BreweryCellar();
        for (int i = 0; i < 16; i++) {
            Check.due("count(1)", x.count(1), i);
            Check.due("batch " + i, x.brew(0, 10 + i, i), i);
            x.lose(0, 10 + i, 1);
            x.clean(0);
            x.pass(2);
        }
        Check.due("a 17th batch", x.brew(0, 10, 5), -4);
        for (int i = 0; i < 16; i++) {
            int[] due = {i, 10 + i, 0, 0, 10 + i, 2 * i, 0};
            for (int what = 0; what < due.length; what++) {
                Check.due("ofBatch(" + i + ", " + what + ")", x.ofBatch(i, what), due[what]);
            }
            Check.due("the day of its entry", x.entry(2 * i, 0), 2 * i);
            Check.due("the litres of its entry", x.entry(2 * i, 3), 10 + i);
        }
        Check.due("reason()", x.reason(), -5);
        Twins.unchanged("a 17th batch", Scenes::sixteenBatches, -4, c -> c.brew(2, 10, 5));
        Twins.unchanged("a 17th batch of the least", Scenes::sixteenBatches, -4, c -> c.brew(5, 1, 0));
    }

    /** "Changes that were undone make room." */
    private static void undoneBatchesMakeRoom() {
        BreweryCellar x = Scenes.sixteenBatches();
        x.image();
        x.back();
        Check.due("count(1)", x.count(1), 15);
        Check.due("ofBatch(15, 0) undone", x.ofBatch(15, 0), -1);
        Check.due("brew(2, 7, 3)", x.brew(2, 7, 3), 15);
        Check.due("ofBatch(15, 0)", x.ofBatch(15, 0), 3);
        Check.due("ofBatch(15, 1)", x.ofBatch(15, 1), 7);
        Check.due("ofBatch(15, 6)", x.ofBatch(15, 6), 4);
        Check.due("brew(3, 7, 3)", x.brew(3, 7, 3), -4);
        x.undo();
        Check.due("ofBatch(15, 0) restored", x.ofBatch(15, 0), 1500);
        Check.due("brew(3, 7, 3)", x.brew(3, 7, 3), -4);
    }

    /** brew: "the litres, 1 to 9999"; "BAD if a number is out of range". */
    private static void litresBrewedAreFrom1To9999() {
        BreweryCellar x = new BreweryCellar();
        x.size(1, 9999);
        Check.due("brew(0, 1, 5)", x.brew(0, 1, 5), 0);
        Check.due("ofBatch(0, 1)", x.ofBatch(0, 1), 1);
        Check.due("brew(1, 9999, 5)", x.brew(1, 9999, 5), 1);
        Check.due("ofBatch(1, 1)", x.ofBatch(1, 1), 9999);
        Check.due("ofTank(1, 1)", x.ofTank(1, 1), 9999);
        for (int litres : new int[] {0, -1, 10000, Integer.MIN_VALUE, Integer.MAX_VALUE}) {
            Twins.unchanged("brew(4, " + litres + ", 5)", Scenes::tanks, -2, c -> c.brew(4, litres, 5));
        }
    }

    /** "A batch has a strength from 0 to 2000". */
    private static void strengthIsFrom0To2000() {
        BreweryCellar x = new BreweryCellar();
        Check.due("brew(0, 5, 0)", x.brew(0, 5, 0), 0);
        Check.due("brew(1, 5, 2000)", x.brew(1, 5, 2000), 1);
        Check.due("ofBatch(0, 0)", x.ofBatch(0, 0), 0);
        Check.due("ofBatch(1, 0)", x.ofBatch(1, 0), 2000);
        for (int strength : new int[] {-1, 2001, Integer.MIN_VALUE, Integer.MAX_VALUE}) {
            Twins.unchanged("brew(4, 5, " + strength + ")", Scenes::tanks, -2, c -> c.brew(4, 5, strength));
        }
    }

    /** "Brews a batch into a clean tank": "STATE with the reason 2 (also for a tank in use)". */
    private static void onlyIntoCleanTank() {
        Twins.refused("brew in use", Scenes::tanks, 2, x -> x.brew(0, 1, 480));
        Twins.refused("brew dirty", Scenes::tanks, 2, x -> x.brew(2, 1, 480));
        Twins.refused("brew being cleaned", Scenes::tanks, 2, x -> x.brew(3, 1, 480));
        BreweryCellar x = Scenes.tanks();
        Check.due("brew clean", x.brew(4, 1, 480), 4);
        Check.due("ofTank(4, 2)", x.ofTank(4, 2), 1);
        x.pass(2);
        Check.due("brew cleaned", x.brew(3, 1, 480), 5);
    }

    /** "Only a clean tank or one in use can take something, at most up to its size." brew: STATE with the reason 4. */
    private static void atMostUpToTheSize() {
        Twins.refused("brew(4, 1001, 5)", Scenes::tanks, 4, x -> x.brew(4, 1001, 5));
        Twins.refused("brew(4, 9999, 5)", Scenes::tanks, 4, x -> x.brew(4, 9999, 5));
        Twins.refused("brew(5, 11, 5)", Scenes::tanks, 4, x -> x.brew(5, 11, 5));
        BreweryCellar x = Scenes.tanks();
        Check.due("brew(4, 1000, 5)", x.brew(4, 1000, 5), 4);
        Check.due("ofTank(4, 6)", x.ofTank(4, 6), 0);
        Check.due("brew(5, 10, 5)", x.brew(5, 10, 5), 5);
        Check.due("ofTank(5, 1)", x.ofTank(5, 1), 10);
    }

    /** brew: "NONE if there is no such tank". */
    private static void noSuchTank() {
        for (int tank : Scenes.NO_TANKS) {
            Twins.unchanged("brew(" + tank + ", 5, 5)", Scenes::tanks, -1, x -> x.brew(tank, 5, 5));
        }
        BreweryCellar x = new BreweryCellar();
        Check.due("brew(0, 5, 5)", x.brew(0, 5, 5), 0);
        Check.due("brew(5, 5, 5)", x.brew(5, 5, 5), 1);
    }

    /** "If several errors apply, the one that is listed first in the @return line is returned." */
    private static void errorsOfBrewInTheirOrder() {
        Twins.unchanged("NONE ahead of BAD", Scenes::tanks, -1, x -> x.brew(6, 0, 5));
        Twins.unchanged("NONE ahead of FULL", Scenes::sixteenBatches, -1, x -> x.brew(-1, 5, 5));
        Twins.unchanged("BAD ahead of FULL", Scenes::sixteenBatches, -2, x -> x.brew(2, 0, 5));
        Twins.unchanged("BAD ahead of FULL", Scenes::sixteenBatches, -2, x -> x.brew(2, 5, 2001));
        Twins.unchanged("BAD ahead of STATE", Scenes::tanks, -2, x -> x.brew(0, 5, -1));
        Twins.unchanged("BAD ahead of STATE", Scenes::tanks, -2, x -> x.brew(2, 10000, 5));
        Twins.unchanged("FULL ahead of the reason 2", Scenes::sixteenBatches, -4, x -> x.brew(0, 5, 5));
        Twins.unchanged("FULL ahead of the reason 4", Scenes::sixteenBatches, -4, x -> x.brew(2, 1001, 5));
        Twins.refused("the reason 2 ahead of 4", Scenes::tanks, 2, x -> x.brew(0, 501, 5));
        Twins.refused("the reason 2 ahead of 4", Scenes::tanks, 2, x -> x.brew(2, 1001, 5));
        Twins.refused("the reason 2 ahead of 4", Scenes::tanks, 2, x -> x.brew(3, 1001, 5));
    }

    /** "A batch has a strength .. which never changes." */
    private static void strengthNeverChanges() {
        BreweryCellar x = Scenes.blended(10, 11);
        x.transfer(5, 4, 13);
        x.lose(5, 8, 1);
        Check.due("ofBatch(0, 0)", x.ofBatch(0, 0), 0);
        Check.due("ofBatch(1, 0)", x.ofBatch(1, 0), 100);
        Check.due("ofBatch(1, 1)", x.ofBatch(1, 1), 11);
    }

    private static void taken(int amount, int[] litres, int... due) {
        BreweryCellar x = Scenes.blended(litres);
        x.size(4, 9999);
        Check.due("transfer(5, 4, " + amount + ")", x.transfer(5, 4, amount), amount);
        for (int i = 0; i < due.length; i++) {
            String batch = " litres of batch " + i + " of " + amount;
            Check.due("taken" + batch, x.litres(4, i), due[i]);
            Check.due("left" + batch, x.litres(5, i), litres[i] - due[i]);
        }
    }

    /**
     * "Of each batch, its litres there times the litres taken, divided by all litres there and rounded down; the litres
     * that are still missing are taken one by one, one of each of those batches at which this division leaves the
     * greatest remainders, of the same remainder those with lower numbers." "Of a batch at most one missing litre is
     * taken one by one, and never at a remainder of 0."
     */
    private static void takenInProportion() {
        // nothing is missing
        taken(4, new int[] {4, 4}, 2, 2);
        taken(999, new int[] {333, 333, 333}, 333, 333, 333);
        taken(1, new int[] {1}, 1);
        taken(7, new int[] {7}, 7);
        // the greatest remainder, at the lowest number, the highest, and between
        taken(4, new int[] {5, 3}, 3, 1);
        taken(3, new int[] {3, 5}, 1, 2);
        taken(7, new int[] {3, 5, 4}, 2, 3, 2);
        taken(1, new int[] {1, 4, 1}, 0, 1, 0);
        // the same remainder
        taken(1, new int[] {1, 1, 1}, 1, 0, 0);
        taken(2, new int[] {1, 1, 1}, 1, 1, 0);
        taken(2, new int[] {1, 1, 1, 1, 1}, 1, 1, 0, 0, 0);
        taken(2, new int[] {1, 4, 1}, 1, 1, 0);
        taken(7, new int[] {2, 4, 4}, 1, 3, 3);
        // a remainder of 0 at the lowest number, and at the greatest litres
        taken(3, new int[] {4, 1, 1}, 2, 1, 0);
        taken(2, new int[] {2, 3, 3}, 0, 1, 1);
        taken(4, new int[] {1, 6, 1}, 1, 3, 0);
        // a batch with few litres gives none
        taken(10, new int[] {100, 1, 1}, 10, 0, 0);
        taken(5, new int[] {1, 8, 3}, 1, 3, 1);
        // all but one litre
        taken(17, new int[] {5, 6, 7}, 5, 6, 6);
    }

    /** The same, where litres times litres are the greatest. */
    private static void greatTanksInProportion() {
        taken(9998, new int[] {5000, 4999}, 4999, 4999);
        taken(9998, new int[] {9998, 1}, 9997, 1);
        taken(9999, new int[] {1, 9998}, 1, 9998);
        taken(5000, new int[] {9998, 1}, 4999, 1);
        taken(4999, new int[] {9998, 1}, 4999, 0);
    }

    /** The same with all batches in one tank. */
    private static void sixteenBatchesInProportion() {
        int[] litres = new int[16];
        Arrays.fill(litres, 1);
        taken(5, litres, 1, 1, 1, 1, 1, 0, 0, 0, 0, 0, 0, 0, 0, 0, 0, 0);
        litres[15] = 2;
        taken(1, litres, 0, 0, 0, 0, 0, 0, 0, 0, 0, 0, 0, 0, 0, 0, 0, 1);
        taken(16, litres, 1, 1, 1, 1, 1, 1, 1, 1, 1, 1, 1, 1, 1, 1, 1, 1);
    }

    /** "To take some litres out of a tank" means the same for losses and for fillings. */
    private static void whateverIsTakenOutIsTakenInProportion() {
        BreweryCellar x = Scenes.blended(5, 3);
        x.lose(5, 4, 2);
        Check.due("ofBatch(0, 4)", x.ofBatch(0, 4), 3);
        Check.due("ofBatch(1, 4)", x.ofBatch(1, 4), 1);
        BreweryCellar y = Scenes.blended(5, 3);
        y.order(0, 4, 0, 2000);
        y.fill(5, 0);
        Check.due("ofBatch(0, 3)", y.ofBatch(0, 3), 3);
        Check.due("ofBatch(1, 3)", y.ofBatch(1, 3), 1);
        y.back();
        y.fillAll();
        Check.due("ofBatch(0, 3) as planned", y.ofBatch(0, 3), 3);
        Check.due("ofBatch(1, 3) as planned", y.ofBatch(1, 3), 1);
    }

    /** litres: "Returns the litres of a batch in a tank." */
    private static void litresOfBatch() {
        BreweryCellar x = Scenes.blended(10, 11);
        Check.due("litres(5, 0)", x.litres(5, 0), 10);
        Check.due("litres(5, 1)", x.litres(5, 1), 11);
        Check.due("litres(0, 0)", x.litres(0, 0), 0);
        Check.due("litres(4, 1)", x.litres(4, 1), 0);
    }

    /** litres: "NONE if there is no such tank or batch." */
    private static void noSuchTankOrBatch() {
        for (int tank : Scenes.NO_TANKS) {
            Twins.unchanged("litres(" + tank + ", 0)", Scenes::tanks, -1, x -> x.litres(tank, 0));
            Twins.unchanged("litres(" + tank + ", -1)", Scenes::tanks, -1, x -> x.litres(tank, -1));
        }
        for (int batch : new int[] {-1, 4, 15, 16, Integer.MIN_VALUE, Integer.MAX_VALUE}) {
            Twins.unchanged("litres(0, " + batch + ")", Scenes::tanks, -1, x -> x.litres(0, batch));
        }
        Twins.unchanged("litres(0, 3)", Scenes::tanks, 0, x -> x.litres(0, 3));
        Check.due("litres(0, 0) without a batch", new BreweryCellar().litres(0, 0), -1);
        Check.due("litres(1, 15)", Scenes.sixteenBatches().litres(1, 15), 10);
        Check.due("litres(1, 16)", Scenes.sixteenBatches().litres(1, 16), -1);
    }

    /** ofBatch: the strength, what was brewed and where it went, and the day. */
    private static void numbersOfBatch() {
        BreweryCellar x = new BreweryCellar();
        x.pass(3);
        x.brew(0, 500, 450);
        int[] atFirst = {450, 500, 500, 0, 0, 3, 1};
        for (int what = 0; what < atFirst.length; what++) {
            Check.due("ofBatch(0, " + what + ")", x.ofBatch(0, what), atFirst[what]);
        }
        x.pass(1);
        x.brew(1, 40, 2000);
        x.transfer(0, 2, 200);
        x.transfer(0, 5, 100);
        x.lose(2, 9, 1);
        x.order(0, 30, 0, 2000);
        x.fill(5, 0);
        int[] due = {450, 500, 460, 30, 10, 3, 1 + 4 + 32};
        for (int what = 0; what < due.length; what++) {
            Check.due("ofBatch(0, " + what + ")", x.ofBatch(0, what), due[what]);
        }
        int[] other = {2000, 40, 40, 0, 0, 4, 2};
        for (int what = 0; what < other.length; what++) {
            Check.due("ofBatch(1, " + what + ")", x.ofBatch(1, what), other[what]);
        }
    }

    /** ofBatch: "NONE if there is no such batch or what is invalid." */
    private static void selectorsOfBatches() {
        for (int batch : new int[] {-1, 4, 15, 16, Integer.MIN_VALUE, Integer.MAX_VALUE}) {
            for (int what : new int[] {0, 3, 6, 7}) {
                Twins.unchanged("ofBatch(" + batch + ", " + what + ")", Scenes::tanks, -1,
                        x -> x.ofBatch(batch, what));
            }
        }
        for (int what : new int[] {-1, 7, Integer.MIN_VALUE, Integer.MAX_VALUE}) {
            Twins.unchanged("ofBatch(0, " + what + ")", Scenes::tanks, -1, x -> x.ofBatch(0, what));
        }
        Twins.unchanged("ofBatch(3, 5)", Scenes::tanks, 3, x -> x.ofBatch(3, 5));
        Check.due("ofBatch(0, 0) without a batch", new BreweryCellar().ofBatch(0, 0), -1);
        Check.due("ofBatch(15, 0)", Scenes.sixteenBatches().ofBatch(15, 0), 1500);
        Check.due("ofBatch(16, 0)", Scenes.sixteenBatches().ofBatch(16, 0), -1);
    }

    /** "6 the tanks that have some of it, as a set". */
    private static void tanksAsSet() {
        BreweryCellar x = new BreweryCellar();
        x.brew(0, 600, 500);
        int[] due = {1, 3, 7, 15, 31, 63};
        for (int tank = 1; tank < 6; tank++) {
            Check.due("ofBatch(0, 6)", x.ofBatch(0, 6), due[tank - 1]);
            x.transfer(0, tank, 1);
        }
        Check.due("ofBatch(0, 6) in all tanks", x.ofBatch(0, 6), 63);
        x.lose(5, 1, 1);
        Check.due("ofBatch(0, 6)", x.ofBatch(0, 6), 31);
        x.lose(0, 595, 1);
        Check.due("ofBatch(0, 6)", x.ofBatch(0, 6), 30);
        for (int tank = 1; tank < 5; tank++) {
            x.lose(tank, 1, 1);
        }
        Check.due("ofBatch(0, 6) of nothing", x.ofBatch(0, 6), 0);
        Check.due("ofBatch(0, 2) of nothing", x.ofBatch(0, 2), 0);
    }
}
