import java.util.List;
import java.util.function.Supplier;
import java.util.function.ToLongFunction;

/** Changes that are undone, and the snapshot: promises 28 to 30. A test below a quotation is about that sentence. */
final class ChangesTest {
    public static void main(String[] args) {
        eachChangeIsUndone();
        changesWithoutEffectAreChanges();
        sixChangesAtMost();
        latestFirst();
        nothingToUndo();
        undoneChangesMakeRoom();
        refusedCallsAreNoChanges();
        otherCallsAreNoChanges();
        snapshotContainsEverythingElse();
        laterSnapshotTakesThePlace();
        snapshotStays();
        withoutSnapshot();
        noChangesAreUndoneBehindUndo();
        snapshotLeavesOutTapeAndReason();
        snapshotIsNotUndone();
        placesThatWereUsedAgain();
        Check.finish();
    }

    /** Every change that succeeds in the cellar Scenes.tanks(), and what it answers. */
    private static final List<ToLongFunction<BreweryCellar>> CHANGES = List.of(
            x -> x.size(4, 77), x -> x.brew(4, 70, 2000), x -> x.transfer(0, 4, 222), x -> x.lose(0, 33, 2),
            x -> x.setLoss(77), x -> x.rate(1, 400, 5), x -> x.order(0, 5, 0, 1000), x -> x.drop(0),
            x -> x.fill(0, 0), x -> x.fillAll(), x -> x.clean(2), x -> x.pass(3), x -> x.correct(), x -> x.run());
    private static final long[] ANSWERS = {1000, 4, 221, 467, 5, 2, 3, 0, 960, 1, 5, 1, 1, 1};

    /**
     * "The successful calls of size, brew, transfer, lose, setLoss, rate, order, drop, fill, fillAll, clean, pass,
     * correct and run are changes". "Undoes the latest change that was not undone."
     */
    private static void eachChangeIsUndone() {
        for (int i = 0; i < ANSWERS.length; i++) {
            ToLongFunction<BreweryCellar> change = CHANGES.get(i);
            Supplier<BreweryCellar> made = i < ANSWERS.length - 1 ? Scenes::tanksWithoutText : Scenes::tanks;
            BreweryCellar x = made.get();
            x.image();
            x.undo();
            Check.due("change " + i, change.applyAsLong(x), ANSWERS[i]);
            Check.due("count(5) after change " + i, x.count(5), 1);
            BreweryCellar y = Scenes.tanksWithoutText();
            y.image();
            y.undo();
            Check.holds("change " + i + " is seen", !Twins.seen(x).equals(Twins.seen(y)));
            Check.due("back() after change " + i, x.back(), 0);
            // The twin asked as many questions as it may, so a new one is made.
            y = Scenes.tanksWithoutText();
            y.image();
            y.undo();
            BreweryCellar z = made.get();
            z.image();
            z.undo();
            change.applyAsLong(z);
            z.back();
            Twins.same("after change " + i + " and back()", z, y);
            Check.due("back() without a change", z.back(), -3);
        }
    }

    /** Changes that leave a number as it was, and those of nothing, are changes too. */
    private static void changesWithoutEffectAreChanges() {
        BreweryCellar x = new BreweryCellar();
        x.size(0, 1000);
        x.setLoss(5);
        x.fillAll();
        x.correct();
        Check.due("count(5)", x.count(5), 4);
        Check.due("back()", x.back(), 3);
    }

    /** "At most 6 of them can be undone". */
    private static void sixChangesAtMost() {
        BreweryCellar x = new BreweryCellar();
        for (int i = 1; i <= 9; i++) {
            x.pass(1);
            Check.due("count(5) after " + i, x.count(5), Math.min(i, 6));
        }
        for (int i = 5; i >= 0; i--) {
            Check.due("back()", x.back(), i);
            Check.due("count(0)", x.count(0), i + 3);
            Check.due("count(5)", x.count(5), i);
        }
        Check.due("back()", x.back(), -3);
        Check.due("count(0)", x.count(0), 3);
        BreweryCellar y = new BreweryCellar();
        for (int i = 0; i < 6; i++) {
            y.pass(1);
        }
        for (int i = 0; i < 6; i++) {
            y.back();
        }
        Check.due("count(0) with all 6 undone", y.count(0), 0);
        Check.due("back()", y.back(), -3);
    }

    /** "The latest first." */
    private static void latestFirst() {
        BreweryCellar x = new BreweryCellar();
        x.setLoss(9);
        x.size(0, 500);
        x.pass(4);
        Check.due("back()", x.back(), 2);
        Check.due("count(0)", x.count(0), 0);
        Check.due("ofTank(0, 0)", x.ofTank(0, 0), 500);
        Check.due("back()", x.back(), 1);
        Check.due("ofTank(0, 0)", x.ofTank(0, 0), 1000);
        Check.due("count(6)", x.count(6), 9);
        Check.due("back()", x.back(), 0);
        Check.due("count(6)", x.count(6), 5);
    }

    /** back: "STATE if there is none, without a reason." */
    private static void nothingToUndo() {
        Twins.unchanged("back() of a new object", BreweryCellar::new, -3, BreweryCellar::back);
        Twins.unchanged("back() behind all changes", () -> {
            BreweryCellar x = Scenes.tanks();
            while (x.count(5) > 0) {
                x.back();
            }
            return x;
        }, -3, BreweryCellar::back);
        Twins.unchanged("back() behind undo()", () -> {
            BreweryCellar x = Scenes.tanks();
            x.undo();
            return x;
        }, -3, BreweryCellar::back);
    }

    /** "Changes that were undone make room." */
    private static void undoneChangesMakeRoom() {
        BreweryCellar x = new BreweryCellar();
        for (int i = 0; i < 8; i++) {
            x.pass(1);
        }
        x.back();
        x.back();
        x.pass(10);
        Check.due("count(5)", x.count(5), 5);
        x.pass(100);
        x.pass(100);
        Check.due("count(5)", x.count(5), 6);
        int[] days = {116, 16, 6, 5, 4, 3};
        for (int i = 0; i < days.length; i++) {
            x.back();
            Check.due("count(0)", x.count(0), days[i]);
        }
        Check.due("back()", x.back(), -3);
    }

    /** "A call that returns an error code leaves the state unchanged": what can be undone too. */
    private static void refusedCallsAreNoChanges() {
        BreweryCellar x = new BreweryCellar();
        for (int i = 1; i <= 7; i++) {
            x.pass(1);
        }
        x.size(0, 0);
        x.brew(0, 5, -1);
        x.brew(0, 1001, 1);
        x.transfer(0, 1, 5);
        x.lose(0, 5, 1);
        x.setLoss(-1);
        x.rate(-1, 0, 0);
        x.order(-1, 0, 0, 0);
        x.drop(0);
        x.fill(0, 0);
        x.clean(0);
        x.pass(0);
        Scenes.run(x, "");
        Scenes.run(x, "d0");
        Scenes.run(x, "d1;d0");
        Check.due("count(5)", x.count(5), 6);
        for (int i = 6; i >= 1; i--) {
            x.back();
            Check.due("count(0)", x.count(0), i);
        }
        Check.due("back()", x.back(), -3);
    }

    private static void otherCallsAreNoChanges() {
        BreweryCellar x = Scenes.tanks();
        x.back();
        x.feed(1, 'x', 0, 0, 0, 0);
        x.mix(0, 1, 50, 600);
        x.planned(0);
        x.ofOrder(0, 5);
        x.image();
        Check.due("count(5)", x.count(5), 5);
        Check.due("count(3)", x.count(3), 1);
        Check.due("back()", x.back(), 4);
        Check.due("ofOrder(2, 4)", x.ofOrder(2, 4), 0);
    }

    /** A cellar that took a snapshot as the last thing. */
    private static BreweryCellar taken() {
        BreweryCellar x = Scenes.tanksWithoutText();
        x.image();
        return x;
    }

    /** "The snapshot contains everything but itself, the tape, the reason and the changes that can be undone." */
    private static void snapshotContainsEverythingElse() {
        BreweryCellar due = taken();
        due.undo();
        List<String> before = Twins.seen(due);
        for (int i = 0; i < ANSWERS.length; i++) {
            BreweryCellar x = taken();
            CHANGES.get(i).applyAsLong(x);
            Check.due("undo() after change " + i, x.undo(), 3);
            Twins.same("after change " + i + " and undo()", Twins.seen(x), before);
        }
        BreweryCellar x = taken();
        for (ToLongFunction<BreweryCellar> change : CHANGES) {
            change.applyAsLong(x);
        }
        Check.due("undo() after all changes", x.undo(), 3);
        Twins.same("after all changes and undo()", Twins.seen(x), before);
    }

    /** image: "Takes a snapshot, in place of an earlier one." "Returns the present day." */
    private static void laterSnapshotTakesThePlace() {
        BreweryCellar x = new BreweryCellar();
        Check.due("image()", x.image(), 0);
        x.pass(5);
        Check.due("image()", x.image(), 5);
        x.pass(2);
        Check.due("undo()", x.undo(), 5);
        Check.due("count(0)", x.count(0), 5);
        BreweryCellar y = Scenes.onDay(9999).get();
        Check.due("image() on 9999", y.image(), 9999);
        y.setLoss(1);
        Check.due("undo() on 9999", y.undo(), 9999);
    }

    /** undo: "Restores the snapshot, which stays." */
    private static void snapshotStays() {
        BreweryCellar x = new BreweryCellar();
        x.pass(1);
        x.pass(1);
        Check.due("image()", x.image(), 2);
        Check.due("back()", x.back(), 1);
        Check.due("back()", x.back(), 0);
        Check.due("count(0)", x.count(0), 0);
        for (int i = 0; i < 3; i++) {
            Check.due("undo()", x.undo(), 2);
            Check.due("count(0)", x.count(0), 2);
            x.pass(3);
            x.brew(i, 5, 5);
        }
        Check.due("undo()", x.undo(), 2);
        Check.due("count(1)", x.count(1), 0);
        Check.due("undo() again at once", x.undo(), 2);
    }

    /** undo: "STATE if there is no snapshot, without a reason." */
    private static void withoutSnapshot() {
        Twins.unchanged("undo() of a new object", BreweryCellar::new, -3, BreweryCellar::undo);
        Twins.unchanged("undo() without a snapshot", () -> {
            BreweryCellar x = Scenes.brewed(50, 500);
            x.pass(2);
            x.clean(0);
            return x;
        }, -3, BreweryCellar::undo);
        BreweryCellar y = new BreweryCellar();
        y.image();
        y.pass(2);
        Check.due("undo() to a new object", y.undo(), 0);
    }

    /** undo: "No changes can be undone then." */
    private static void noChangesAreUndoneBehindUndo() {
        BreweryCellar x = Scenes.tanks();
        Check.due("count(5)", x.count(5), 6);
        x.undo();
        Check.due("count(5) after undo()", x.count(5), 0);
        Check.due("back() after undo()", x.back(), -3);
        x.pass(1);
        x.pass(1);
        Check.due("count(5)", x.count(5), 2);
        Check.due("back()", x.back(), 1);
        Check.due("back()", x.back(), 0);
        Check.due("count(0)", x.count(0), 3);
        Check.due("back()", x.back(), -3);
    }

    private static void snapshotLeavesOutTapeAndReason() {
        BreweryCellar x = new BreweryCellar();
        x.feed(2, 'd', '5', 0, 0, 0);
        x.clean(0);
        x.image();
        x.feed(1, '0', 0, 0, 0, 0);
        x.clean(6);
        Check.due("undo()", x.undo(), 0);
        Check.due("count(4)", x.count(4), 3);
        Check.due("reason()", x.reason(), 1);
        Check.due("run()", x.run(), 1);
        Check.due("count(0)", x.count(0), 50);
        Check.due("undo()", x.undo(), 0);
        Check.due("count(4)", x.count(4), 0);
    }

    /** Taking a snapshot is no change: it stays when changes around it are undone. */
    private static void snapshotIsNotUndone() {
        BreweryCellar x = new BreweryCellar();
        x.pass(1);
        x.image();
        x.pass(2);
        Check.due("back()", x.back(), 1);
        Check.due("back()", x.back(), 0);
        Check.due("back()", x.back(), -3);
        Check.due("undo()", x.undo(), 1);
    }

    /** What was told, undone and told anew in another way. */
    private static BreweryCellar toldAnew() {
        BreweryCellar x = new BreweryCellar();
        x.brew(0, 1, 0);
        x.lose(0, 1, 1);
        x.brew(1, 900, 500);
        x.clean(0);
        x.rate(0, 400, 100);
        x.order(1, 30, 100, 1000);
        x.fill(1, 0);
        x.image();
        for (int i = 0; i < 5; i++) {
            x.back();
        }
        x.pass(7);
        x.brew(2, 800, 600);
        x.clean(0);
        x.rate(1, 300, 900);
        x.order(2, 40, 200, 900);
        x.pass(1);
        x.fill(2, 0);
        return x;
    }

    private static void placesThatWereUsedAgain() {
        BreweryCellar x = toldAnew();
        Check.due("count(1)", x.count(1), 2);
        Check.due("ofTank(0, 4)", x.ofTank(0, 4), 9);
        Check.due("ofOrder(0, 6)", x.ofOrder(0, 6), 2160);
        Check.due("undo()", x.undo(), 0);
        Check.due("ofTank(0, 4)", x.ofTank(0, 4), 2);
        Check.due("ofBatch(1, 0)", x.ofBatch(1, 0), 500);
        Check.due("ofBatch(1, 1)", x.ofBatch(1, 1), 900);
        Check.due("ofBatch(1, 5)", x.ofBatch(1, 5), 0);
        Check.due("ofOrder(0, 0)", x.ofOrder(0, 0), 1);
        Check.due("ofOrder(0, 1)", x.ofOrder(0, 1), 30);
        Check.due("ofOrder(0, 2)", x.ofOrder(0, 2), 100);
        Check.due("ofOrder(0, 3)", x.ofOrder(0, 3), 1000);
        Check.due("ofOrder(0, 6)", x.ofOrder(0, 6), 150);
        Check.due("excise(1)", x.excise(1), 150);
        Check.due("excise(3)", x.excise(3), 0);
        Check.due("holds(0, 399)", x.holds(0, 399), -5);
        Check.due("holds(0, 400)", x.holds(0, 400), 0);
        Check.due("entry(2, 3)", x.entry(2, 3), 900);
        x.rate(1, 400, 999);
        x.rate(0, 501, 999);
        Check.due("excise(1)", x.excise(1), 150);
    }
}
