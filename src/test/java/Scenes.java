import java.util.function.Supplier;

/** Cellars in states that several tests begin with. */
final class Scenes {
    static final int[] NO_TANKS = {-1, 6, Integer.MIN_VALUE, Integer.MAX_VALUE};

    private Scenes() {
    }

    /**
     * A tank in each state, an order in each, and something in every part of the object. It is the day 3. Tank 0 has
     * 500 litres of 480 in its 1000, tank 1 is full with 300 litres of 2000, tank 2 is dirty, tank 3 is clean on the
     * day 5, tank 4 is clean, and tank 5, clean too, has a size of 10. The order 0 is open for 100 litres of 480,
     * the order 1 is filled, the order 2 is dropped. There are 6 changes that can be undone, a snapshot, the text
     * "d1" on the tape, and the reason 7.
     */
    static BreweryCellar tanks() {
        BreweryCellar x = new BreweryCellar();
        x.pass(3);
        x.rate(0, 0, 100);
        x.brew(0, 550, 480);
        x.size(1, 300);
        x.brew(1, 300, 2000);
        x.brew(2, 10, 0);
        x.brew(3, 10, 1);
        x.order(2, 100, 480, 480);
        x.order(0, 50, 0, 2000);
        x.order(0, 60, 0, 2000);
        x.image();
        x.lose(2, 10, 1);
        x.lose(3, 10, 2);
        x.clean(3);
        x.size(5, 10);
        x.fill(0, 1);
        x.drop(2);
        x.rate(0, 0, 200);
        x.feed(2, 'd', '1', 0, 0, 0);
        x.clean(4);
        return x;
    }

    /** The same with nothing on the tape. */
    static BreweryCellar tanksWithoutText() {
        BreweryCellar x = tanks();
        x.feed(1, 'x', 0, 0, 0, 0);
        x.run();
        return x;
    }

    /** All batches are brewed: the last 2 are in the tanks 0 and 1, and the tank 2 is clean. */
    static BreweryCellar sixteenBatches() {
        BreweryCellar x = new BreweryCellar();
        for (int i = 0; i < 14; i++) {
            x.brew(0, 10, 100 * i);
            x.lose(0, 10, 1);
            x.clean(0);
            x.pass(2);
        }
        x.brew(0, 10, 1400);
        x.brew(1, 10, 1500);
        return x;
    }

    /** A cellar without a transfer loss, with litres of the batches 0, 1, 2 .. of 0, 100, 200 .. in the tank 5. */
    static BreweryCellar blended(int... litres) {
        BreweryCellar x = new BreweryCellar();
        x.setLoss(0);
        x.size(0, 9999);
        x.size(5, 9999);
        for (int i = 0; i < litres.length; i++) {
            x.brew(0, litres[i], 100 * i);
            x.transfer(0, 5, litres[i]);
            x.clean(0);
            x.pass(2);
        }
        return x;
    }

    /** A new cellar with one batch in the tank 0. */
    static BreweryCellar brewed(int litres, int strength) {
        BreweryCellar x = new BreweryCellar();
        x.size(0, 9999);
        x.brew(0, litres, strength);
        return x;
    }

    static Supplier<BreweryCellar> onDay(int day) {
        return () -> {
            BreweryCellar x = new BreweryCellar();
            for (int left = day; left > 0; left -= Math.min(left, 999)) {
                x.pass(Math.min(left, 999));
            }
            return x;
        };
    }

    /** A cellar in which all tanks are dirty. */
    static BreweryCellar allDirty() {
        BreweryCellar x = new BreweryCellar();
        for (int tank = 0; tank < 6; tank++) {
            x.brew(tank, 5, 5);
            x.lose(tank, 5, 1);
        }
        return x;
    }

    static void put(BreweryCellar x, String text) {
        for (int i = 0; i < text.length(); i++) {
            x.feed(1, text.charAt(i), 0, 0, 0, 0);
        }
    }

    static int run(BreweryCellar x, String text) {
        put(x, text);
        return x.run();
    }
}
