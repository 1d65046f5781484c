import java.util.ArrayList;
import java.util.List;
import java.util.function.Supplier;
import java.util.function.ToLongFunction;

/**
 * Cellars that are made by the same calls: one of them gets a call that is to change nothing, and then both answer the
 * same questions. What the document promises of 512 calls is enough for that: each question is asked once.
 */
final class Twins {
    private static final int ENDS_LOOKED_AT = 3;
    private static final int LAST_ENTRY_KEPT = 79;

    private Twins() {
    }

    /** A call that is to be refused with STATE and a reason, and to leave all else as it was. */
    static void refused(String call, Supplier<BreweryCellar> made, int reason, ToLongFunction<BreweryCellar> called) {
        leaves(call, made, called, BreweryCellar.STATE, reason);
    }

    /** A call that is to answer this, and to leave all as it was, the reason too. */
    static void unchanged(String call, Supplier<BreweryCellar> made, long answer,
            ToLongFunction<BreweryCellar> called) {
        leaves(call, made, called, answer, made.get().reason());
    }

    /** A call that is to answer this, to leave this reason, and to leave all else as it was. */
    static void leaves(String call, Supplier<BreweryCellar> made, ToLongFunction<BreweryCellar> called, long answer,
            int reason) {
        BreweryCellar x = made.get();
        Check.due(call, called.applyAsLong(x), answer);
        Check.due("reason() after " + call, x.reason(), reason);
        same("after " + call, x, made.get());
        afterwards(call + " and back()", made, called, Twins::undoAll);
        afterwards(call + " and undo()", made, called, BreweryCellar::undo);
        afterwards(call + " and run()", made, called, BreweryCellar::run);
    }

    /** That two cellars answer all questions alike. */
    static void same(String when, BreweryCellar one, BreweryCellar other) {
        same(when, seen(one), seen(other));
    }

    static void same(String when, List<String> got, List<String> due) {
        for (int i = 0; i < Math.min(got.size(), due.size()); i++) {
            if (!got.get(i).equals(due.get(i))) {
                Check.holds(when + ": " + got.get(i) + ", due is " + due.get(i), false);
                return;
            }
        }
        Check.due("answers " + when, got.size(), due.size());
    }

    private static void afterwards(String calls, Supplier<BreweryCellar> made, ToLongFunction<BreweryCellar> called,
            ToLongFunction<BreweryCellar> then) {
        BreweryCellar x = made.get();
        BreweryCellar y = made.get();
        called.applyAsLong(x);
        Check.due("the answer after " + calls, then.applyAsLong(x), then.applyAsLong(y));
        same("after " + calls, x, y);
    }

    /** Undoes all changes that can be undone; answers a number that tells of the states on the way. */
    private static long undoAll(BreweryCellar x) {
        long mark = 0;
        for (int i = 0; i < 8; i++) {
            mark = mark * 31 + x.back();
            mark = mark * 31 + x.count(0);
            mark = mark * 31 + x.count(1) + x.count(2) + x.count(3);
            mark = mark * 31 + x.account(1);
        }
        return mark;
    }

    /** What a cellar answers, but for the reason: at most some 300 calls, for each state. */
    static List<String> seen(BreweryCellar x) {
        List<String> seen = new ArrayList<>();
        for (int what = 0; what <= 13; what++) {
            seen.add("count(" + what + ") answered " + x.count(what));
        }
        for (int what = 0; what <= 12; what++) {
            seen.add("account(" + what + ") answered " + x.account(what));
        }
        for (int what = 0; what <= 3; what++) {
            seen.add("excise(" + what + ") answered " + x.excise(what));
        }
        for (int day : new int[] {0, 3, 9999}) {
            for (int strength : new int[] {0, 500, 2000}) {
                seen.add("holds(" + day + ", " + strength + ") answered " + x.holds(day, strength));
            }
        }
        seenOfTanks(x, seen);
        seenOfOrders(x, seen);
        seenOfEntries(x, seen);
        return seen;
    }

    private static void seenOfTanks(BreweryCellar x, List<String> seen) {
        int batches = x.count(1);
        for (int what = 0; what <= 6; what++) {
            for (int tank = 0; tank < 6; tank++) {
                seen.add("ofTank(" + tank + ", " + what + ") answered " + x.ofTank(tank, what));
            }
            for (int batch = 0; batch < batches; batch++) {
                if (atAnEnd(batch, batches)) {
                    seen.add("ofBatch(" + batch + ", " + what + ") answered " + x.ofBatch(batch, what));
                    seen.add("litres(" + what + ", " + batch + ") answered " + x.litres(what, batch));
                }
            }
        }
    }

    private static void seenOfOrders(BreweryCellar x, List<String> seen) {
        int orders = x.count(2);
        for (int order = 0; order < orders; order++) {
            seen.add("planned(" + order + ") answered " + x.planned(order));
            for (int what = 0; what <= 6 && atAnEnd(order, orders); what++) {
                seen.add("ofOrder(" + order + ", " + what + ") answered " + x.ofOrder(order, what));
            }
        }
    }

    private static void seenOfEntries(BreweryCellar x, List<String> seen) {
        int entries = x.entry(-1, 0);
        seen.add("entry(-1, 0) answered " + entries);
        for (int i = 0; i < entries; i++) {
            for (int what = 0; what <= 3 && (i < 9 || atAnEnd(i, entries) || i == LAST_ENTRY_KEPT); what++) {
                seen.add("entry(" + i + ", " + what + ") answered " + x.entry(i, what));
            }
        }
    }

    private static boolean atAnEnd(int i, int number) {
        return i < ENDS_LOOKED_AT || i >= number - ENDS_LOOKED_AT;
    }
}
