/** Some days in a cellar: each answer on the way, and behind each part of the story all that the cellar tells. */
final class StoryTest {
    private static final int PARTS = 8;
    /** The entries that the parts before each one made. */
    private static final int[] ENTRIES_TOLD = {0, 3, 18, 19, 25, 29, 29, 15};

    public static void main(String[] args) {
        for (int last = 0; last < PARTS; last++) {
            BreweryCellar x = new BreweryCellar();
            for (int part = 0; part <= last; part++) {
                tell(x, part);
            }
            compare("part " + last, View.of(x, ENTRIES_TOLD[last]), DUE[last]);
        }
        Check.finish();
    }

    private static void tell(BreweryCellar x, int part) {
        switch (part) {
            case 0: brewing(x); break;
            case 1: blending(x); break;
            case 2: ordering(x); break;
            case 3: commanding(x); break;
            case 4: filling(x); break;
            case 5: correcting(x); break;
            case 6: goingBack(x); break;
            default: undoing(x);
        }
    }

    private static void compare(String when, String got, String due) {
        String[] gotLines = got.split("\n");
        String[] dueLines = due.split("\n");
        Check.due("lines of " + when, gotLines.length, dueLines.length);
        for (int i = 0; i < Math.min(gotLines.length, dueLines.length); i++) {
            Check.holds(when + " tells \"" + gotLines[i] + "\", due is \"" + dueLines[i] + "\"",
                    gotLines[i].equals(dueLines[i]));
        }
    }

    private static void brewing(BreweryCellar x) {
        Check.due("size(0, 2000)", x.size(0, 2000), 1000);
        Check.due("brew(0, 1500, 480)", x.brew(0, 1500, 480), 0);
        Check.due("brew(1, 700, 1250)", x.brew(1, 700, 1250), 1);
        Check.due("pass(1)", x.pass(1), 0);
        Check.due("brew(2, 45, 0)", x.brew(2, 45, 0), 2);
        Check.due("brew(2, 45, 0)", x.brew(2, 45, 0), -3);
        Check.due("setLoss(12)", x.setLoss(12), 5);
    }

    private static void blending(BreweryCellar x) {
        Check.due("transfer(0, 3, 333)", x.transfer(0, 3, 333), 330);
        Check.due("transfer(1, 3, 250)", x.transfer(1, 3, 250), 247);
        Check.due("pass(1)", x.pass(1), 0);
        Check.due("transfer(3, 0, 99)", x.transfer(3, 0, 99), 98);
        Check.due("lose(3, 77, 1)", x.lose(3, 77, 1), 401);
        Check.due("lose(1, 8, 2)", x.lose(1, 8, 2), 442);
        Check.due("lose(0, 31, 3)", x.lose(0, 31, 3), 1234);
        Check.due("image()", x.image(), 2);
        Check.due("transfer(0, 4, 1001)", x.transfer(0, 4, 1001), 989);
        Check.due("transfer(1, 4, 13)", x.transfer(1, 4, 13), -3);
    }

    private static void ordering(BreweryCellar x) {
        Check.due("rate(0, 0, 79)", x.rate(0, 0, 79), 0);
        Check.due("rate(3, 700, 154)", x.rate(3, 700, 154), 1);
        Check.due("order(4, 120, 480, 900)", x.order(4, 120, 480, 900), 0);
        Check.due("order(2, 300, 0, 2000)", x.order(2, 300, 0, 2000), 1);
        Check.due("order(2, 45, 0, 100)", x.order(2, 45, 0, 100), 2);
        Check.due("order(9, 5000, 0, 2000)", x.order(9, 5000, 0, 2000), 3);
        Check.due("order(2, 300, 800, 2000)", x.order(2, 300, 800, 2000), 4);
        Check.due("order(0, 1, 0, 2000)", x.order(0, 1, 0, 2000), 5);
        Check.due("order(0, 1, 0, 2000)", x.order(0, 1, 0, 2000), 6);
        Check.due("drop(5)", x.drop(5), 6);
        Check.due("fill(2, 2)", x.fill(2, 2), 0);
        Check.due("fill(1, 0)", x.fill(1, 0), -3);
    }

    private static void commanding(BreweryCellar x) {
        Check.due("run()", Scenes.run(x, "c2;d1;t3>5:200;l5:9/3;f3#6;l0:5/1"), 6);
        Check.due("run()", Scenes.run(x, "l0:5/1;d1;c2"), -202);
        Check.due("run()", Scenes.run(x, "l0:5/1;d1;c"), -111);
        Check.due("feed(3, ..)", x.feed(3, 'd', '1', ';', 0, 0), 3);
    }

    private static void filling(BreweryCellar x) {
        Check.due("pass(1)", x.pass(1), 1);
        Check.due("brew(2, 10, 2000)", x.brew(2, 10, 2000), 3);
        Check.due("lose(2, 10, 1)", x.lose(2, 10, 1), 0);
        Check.due("fillAll()", x.fillAll(), 2);
        Check.due("pass(5)", x.pass(5), 0);
    }

    private static void correcting(BreweryCellar x) {
        Check.due("rate(4, 0, 5)", x.rate(4, 0, 5), 2);
        Check.due("rate(0, 1250, 4001)", x.rate(0, 1250, 4001), 3);
        Check.due("correct()", x.correct(), 1);
        Check.due("rate(4, 700, 33)", x.rate(4, 700, 33), 4);
        Check.due("clean(2)", x.clean(2), 11);
    }

    private static void goingBack(BreweryCellar x) {
        Check.due("back()", x.back(), 5);
        Check.due("back()", x.back(), 4);
        Check.due("back()", x.back(), 3);
        Check.due("correct()", x.correct(), 1);
        Check.due("lose(4, 9, 3)", x.lose(4, 9, 3), 980);
    }

    private static void undoing(BreweryCellar x) {
        Check.due("undo()", x.undo(), 2);
        Check.due("back()", x.back(), -3);
        Check.due("transfer(0, 5, 84)", x.transfer(0, 5, 84), 83);
    }

    private static final String[] DUE = {
        """
        day, batches, orders, rates, bytes, changes, loss: 1 3 0 0 0 6 12
        clean, in use, dirty, being cleaned: 3 3 0 0
        reason: 2
        tank 0: 2000 1500 1 480 -5 1 500 1500 0 0
        tank 1: 1000 700 1 1250 -5 1 300 0 700 0
        tank 2: 1000 45 1 0 -5 1 955 0 0 45
        tank 3: 1000 0 0 -5 -5 0 1000 0 0 0
        tank 4: 1000 0 0 -5 -5 0 1000 0 0 0
        tank 5: 1000 0 0 -5 -5 0 1000 0 0 0
        batch 0: 480 1500 1500 0 0 0 1
        batch 1: 1250 700 700 0 0 0 2
        batch 2: 0 45 45 0 0 1 4
        planned:
        entries: 3
        entry 0: 0 0 0 1500
        entry 1: 0 0 1 700
        entry 2: 1 0 2 45
        excise: 0 0 0 0
        accounts: 2245 2245 0 0 0 0 0 1595000 1595000 0 0 0 0
        """,
        """
        day, batches, orders, rates, bytes, changes, loss: 2 3 0 0 0 6 12
        clean, in use, dirty, being cleaned: 1 5 0 0
        reason: 4
        tank 0: 2000 233 1 506 -5 2 1767 225 8 0
        tank 1: 1000 442 1 1250 -5 1 558 0 442 0
        tank 2: 1000 45 1 0 -5 1 955 0 0 45
        tank 3: 1000 401 1 810 -5 2 599 229 172 0
        tank 4: 1000 989 1 505 -5 2 11 956 33 0
        tank 5: 1000 0 0 -5 -5 0 1000 0 0 0
        batch 0: 480 1500 1410 0 90 0 25
        batch 1: 1250 700 655 0 45 0 27
        batch 2: 0 45 45 0 0 1 4
        planned:
        entries: 18
        entry 3: 1 1 0 333
        entry 4: 1 3 0 3
        entry 5: 1 2 3 330
        entry 6: 1 1 1 250
        entry 7: 1 3 1 3
        entry 8: 1 2 3 247
        entry 9: 2 1 3 99
        entry 10: 2 3 3 1
        entry 11: 2 2 0 98
        entry 12: 2 3 3 77
        entry 13: 2 3 1 8
        entry 14: 2 3 0 31
        entry 15: 2 1 0 1001
        entry 16: 2 3 0 12
        entry 17: 2 2 4 989
        excise: 0 0 0 0
        accounts: 2245 2110 0 19 77 8 31 1595000 1495550 0 99450 0 0
        """,
        """
        day, batches, orders, rates, bytes, changes, loss: 2 3 7 2 0 6 12
        clean, in use, dirty, being cleaned: 1 4 1 0
        reason: 6
        tank 0: 2000 233 1 506 -5 2 1767 225 8 0
        tank 1: 1000 442 1 1250 -5 1 558 0 442 0
        tank 2: 1000 0 2 -5 -5 0 1000 0 0 0
        tank 3: 1000 401 1 810 -5 2 599 229 172 0
        tank 4: 1000 989 1 505 -5 2 11 956 33 0
        tank 5: 1000 0 0 -5 -5 0 1000 0 0 0
        batch 0: 480 1500 1410 0 90 0 25
        batch 1: 1250 700 655 0 45 0 27
        batch 2: 0 45 0 45 0 1 0
        order 0: 6 120 480 900 0 0 -5
        order 1: 4 300 0 2000 0 3 -5
        order 2: 4 45 0 100 1 -5 0
        order 3: 11 5000 0 2000 0 -5 -5
        order 4: 4 300 800 2000 0 1 -5
        order 5: 2 1 0 2000 2 -5 -5
        order 6: 2 1 0 2000 0 0 -5
        planned: 6 1 4 0 -5 -5 -5
        entries: 19
        entry 18: 2 4 2 45
        excise: 0 0 0 0
        accounts: 2245 2065 45 19 77 8 31 1595000 1495550 0 99450 5 5721
        """,
        """
        day, batches, orders, rates, bytes, changes, loss: 3 3 7 2 3 6 12
        clean, in use, dirty, being cleaned: 0 5 0 1
        reason: 7
        tank 0: 2000 228 1 507 -5 2 1772 220 8 0
        tank 1: 1000 442 1 1250 -5 1 558 0 442 0
        tank 2: 1000 0 3 -5 4 0 1000 0 0 0
        tank 3: 1000 200 1 811 -5 2 800 114 86 0
        tank 4: 1000 989 1 505 -5 2 11 956 33 0
        tank 5: 1000 189 1 810 -5 2 811 108 81 0
        batch 0: 480 1500 1398 1 101 0 57
        batch 1: 1250 700 650 0 50 0 59
        batch 2: 0 45 0 45 0 1 0
        order 0: 6 120 480 900 0 5 -5
        order 1: 4 300 0 2000 0 1 -5
        order 2: 4 45 0 100 1 -5 0
        order 3: 11 5000 0 2000 0 -5 -5
        order 4: 4 300 800 2000 0 -5 -5
        order 5: 2 1 0 2000 2 -5 -5
        order 6: 2 1 0 2000 1 -5 4
        planned: 1 0 -5 -5 -5 -5 -5
        entries: 25
        entry 19: 3 1 3 200
        entry 20: 3 3 3 2
        entry 21: 3 2 5 198
        entry 22: 3 3 5 9
        entry 23: 3 4 3 1
        entry 24: 3 3 0 5
        excise: 4 4 0 0
        accounts: 2245 2048 46 21 82 8 40 1595000 1483540 480 110980 4 5720
        """,
        """
        day, batches, orders, rates, bytes, changes, loss: 9 4 7 2 3 6 12
        clean, in use, dirty, being cleaned: 0 5 1 0
        reason: 7
        tank 0: 2000 228 1 507 -5 2 1772 220 8 0 0
        tank 1: 1000 142 1 1250 -5 1 858 0 142 0 0
        tank 2: 1000 0 2 -5 -5 0 1000 0 0 0 0
        tank 3: 1000 200 1 811 -5 2 800 114 86 0 0
        tank 4: 1000 989 1 505 -5 2 11 956 33 0 0
        tank 5: 1000 69 1 814 -5 2 931 39 30 0 0
        batch 0: 480 1500 1329 70 101 0 57
        batch 1: 1250 700 299 351 50 0 59
        batch 2: 0 45 0 45 0 1 0
        batch 3: 2000 10 0 0 10 4 0
        order 0: 6 120 480 900 1 -5 1492
        order 1: 4 300 0 2000 1 -5 5775
        order 2: 4 45 0 100 1 -5 0
        order 3: 11 5000 0 2000 0 -5 -5
        order 4: 4 300 800 2000 0 -5 -5
        order 5: 2 1 0 2000 2 -5 -5
        order 6: 2 1 0 2000 1 -5 4
        planned: -5 -5 -5 -5 -5 -5 -5
        entries: 29
        entry 25: 4 0 2 10
        entry 26: 4 3 2 10
        entry 27: 4 4 1 300
        entry 28: 4 4 5 120
        excise: 7271 7271 0 0
        accounts: 2255 1628 466 21 92 8 40 1615000 1011670 472350 130980 2 5300
        """,
        """
        day, batches, orders, rates, bytes, changes, loss: 9 4 7 5 3 6 12
        clean, in use, dirty, being cleaned: 0 5 0 1
        reason: 7
        tank 0: 2000 228 1 507 -5 2 1772 220 8 0 0
        tank 1: 1000 142 1 1250 -5 1 858 0 142 0 0
        tank 2: 1000 0 3 -5 11 0 1000 0 0 0 0
        tank 3: 1000 200 1 811 -5 2 800 114 86 0 0
        tank 4: 1000 989 1 505 -5 2 11 956 33 0 0
        tank 5: 1000 69 1 814 -5 2 931 39 30 0 0
        batch 0: 480 1500 1329 70 101 0 57
        batch 1: 1250 700 299 351 50 0 59
        batch 2: 0 45 0 45 0 1 0
        batch 3: 2000 10 0 0 10 4 0
        order 0: 6 120 480 900 1 -5 1492
        order 1: 4 300 0 2000 1 -5 5775
        order 2: 4 45 0 100 1 -5 0
        order 3: 11 5000 0 2000 0 -5 -5
        order 4: 4 300 800 2000 0 -5 -5
        order 5: 2 1 0 2000 2 -5 -5
        order 6: 2 1 0 2000 1 -5 4
        planned: -5 -5 -5 -5 -5 -5 -5
        entries: 29
        excise: 7271 150362 144263 -1172
        accounts: 2255 1628 466 21 92 8 40 1615000 1011670 472350 130980 2 5300
        """,
        """
        day, batches, orders, rates, bytes, changes, loss: 9 4 7 4 3 5 12
        clean, in use, dirty, being cleaned: 0 5 1 0
        reason: 7
        tank 0: 2000 228 1 507 -5 2 1772 220 8 0 0
        tank 1: 1000 142 1 1250 -5 1 858 0 142 0 0
        tank 2: 1000 0 2 -5 -5 0 1000 0 0 0 0
        tank 3: 1000 200 1 811 -5 2 800 114 86 0 0
        tank 4: 1000 980 1 505 -5 2 20 947 33 0 0
        tank 5: 1000 69 1 814 -5 2 931 39 30 0 0
        batch 0: 480 1500 1320 70 110 0 57
        batch 1: 1250 700 299 351 50 0 59
        batch 2: 0 45 0 45 0 1 0
        batch 3: 2000 10 0 0 10 4 0
        order 0: 6 120 480 900 1 -5 1492
        order 1: 4 300 0 2000 1 -5 5775
        order 2: 4 45 0 100 1 -5 0
        order 3: 11 5000 0 2000 0 -5 -5
        order 4: 4 300 800 2000 0 -5 -5
        order 5: 2 1 0 2000 2 -5 -5
        order 6: 2 1 0 2000 1 -5 4
        planned: -5 -5 -5 -5 -5 -5 -5
        entries: 30
        entry 29: 9 3 4 9
        excise: 7271 151534 144263 0
        accounts: 2255 1619 466 21 92 8 49 1615000 1007350 472350 135300 2 5300
        """,
        """
        day, batches, orders, rates, bytes, changes, loss: 2 3 0 0 3 1 12
        clean, in use, dirty, being cleaned: 1 5 0 0
        reason: 7
        tank 0: 2000 1150 1 505 -5 2 850 1112 38 0
        tank 1: 1000 442 1 1250 -5 1 558 0 442 0
        tank 2: 1000 45 1 0 -5 1 955 0 0 45
        tank 3: 1000 401 1 810 -5 2 599 229 172 0
        tank 4: 1000 0 0 -5 -5 0 1000 0 0 0
        tank 5: 1000 83 1 507 -5 2 917 80 3 0
        batch 0: 480 1500 1421 0 79 0 41
        batch 1: 1250 700 655 0 45 0 43
        batch 2: 0 45 45 0 0 1 4
        planned:
        entries: 18
        entry 15: 2 1 0 84
        entry 16: 2 3 0 1
        entry 17: 2 2 5 83
        excise: 0 0 0 0
        accounts: 2245 2121 0 8 77 8 31 1595000 1500830 0 94170 0 0
        """
    };
}
