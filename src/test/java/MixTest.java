/** Promise 20: mixtures that come nearest to a strength. */
final class MixTest {
    public static void main(String[] args) {
        reasons();
        tooFew();
        nearest();
        fewestOfSeveral();
        proportionCounts();
        manyBatches();
        Check.finish();
    }

    private static void reasons() {
        BreweryCellar x = new BreweryCellar();
        x.brew(0, 100, 500);
        Check.refused(x, "mix(0, 0, 0, 0)", x.mix(0, 0, 0, 0), 1);
        Check.refused(x, "mix(-1, 0, 5, 0)", x.mix(-1, 0, 5, 0), 1);
        Check.refused(x, "mix(0, 6, 5, 0)", x.mix(0, 6, 5, 0), 1);
        Check.refused(x, "mix(0, 1, 0, 0)", x.mix(0, 1, 0, 0), 8);
        Check.refused(x, "mix(0, 1, 10000, 0)", x.mix(0, 1, 10000, 0), 8);
        Check.refused(x, "mix(0, 1, 5, -1)", x.mix(0, 1, 5, -1), 8);
        Check.refused(x, "mix(0, 1, 5, 2001)", x.mix(0, 1, 5, 2001), 8);
        Check.refused(x, "mix(0, 1, 5, 0)", x.mix(0, 1, 5, 0), 2);
        Check.refused(x, "mix(1, 0, 5, 0)", x.mix(1, 0, 5, 0), 2);
        Check.refused(x, "mix(1, 0, 9999, 2000)", x.mix(1, 0, 9999, 2000), 2);
    }

    private static void tooFew() {
        BreweryCellar x = new BreweryCellar();
        x.brew(0, 100, 500);
        x.brew(1, 50, 900);
        x.clean(0);
        Check.due("mix(0, 1, 151, 500)", x.mix(0, 1, 151, 500), -5);
        Check.due("mix(0, 1, 150, 500)", x.mix(0, 1, 150, 500), 100);
        Check.due("mix(1, 0, 150, 500)", x.mix(1, 0, 150, 500), 50);
        Check.due("reason()", x.reason(), 7);
        Check.due("count(5)", x.count(5), 2);
        Check.due("account(1)", x.account(1), 150);
    }

    private static void nearest() {
        BreweryCellar x = new BreweryCellar();
        x.brew(0, 100, 500);
        x.brew(1, 50, 900);
        Check.due("mix(0, 1, 40, 600)", x.mix(0, 1, 40, 600), 30);
        Check.due("mix(1, 0, 40, 600)", x.mix(1, 0, 40, 600), 10);
        Check.due("mix(0, 1, 40, 605)", x.mix(0, 1, 40, 605), 29);
        Check.due("mix(0, 1, 40, 604)", x.mix(0, 1, 40, 604), 30);
        Check.due("mix(0, 1, 40, 0)", x.mix(0, 1, 40, 0), 40);
        Check.due("mix(0, 1, 40, 2000)", x.mix(0, 1, 40, 2000), 0);
        Check.due("mix(0, 1, 120, 2000)", x.mix(0, 1, 120, 2000), 70);
        Check.due("mix(0, 1, 120, 0)", x.mix(0, 1, 120, 0), 100);
        Check.due("mix(0, 1, 1, 700)", x.mix(0, 1, 1, 700), 0);
        Check.due("mix(0, 1, 1, 699)", x.mix(0, 1, 1, 699), 1);
    }

    private static void fewestOfSeveral() {
        BreweryCellar x = new BreweryCellar();
        x.brew(0, 100, 500);
        x.brew(1, 50, 500);
        Check.due("mix(0, 1, 40, 600)", x.mix(0, 1, 40, 600), 0);
        Check.due("mix(0, 1, 60, 500)", x.mix(0, 1, 60, 500), 10);
        Check.due("mix(1, 0, 60, 500)", x.mix(1, 0, 60, 500), 0);
        x.brew(2, 50, 400);
        Check.due("mix(0, 2, 3, 450)", x.mix(0, 2, 3, 450), 1);
        Check.due("mix(2, 0, 3, 450)", x.mix(2, 0, 3, 450), 1);
    }

    private static void proportionCounts() {
        BreweryCellar x = new BreweryCellar();
        x.brew(0, 5, 100);
        x.brew(1, 3, 900);
        x.transfer(1, 0, 3);
        x.brew(2, 10, 0);
        // 1 litre of the tank 0 is of the batch 0 (100), 2 are one of each (1000), 3 are 2 and 1 (1100).
        Check.due("mix(0, 2, 4, 25)", x.mix(0, 2, 4, 25), 1);
        Check.due("mix(0, 2, 4, 250)", x.mix(0, 2, 4, 250), 2);
        Check.due("mix(0, 2, 4, 275)", x.mix(0, 2, 4, 275), 3);
        Check.due("mix(0, 2, 4, 137)", x.mix(0, 2, 4, 137), 1);
        Check.due("mix(0, 2, 4, 138)", x.mix(0, 2, 4, 138), 2);
    }

    /** Great tanks with many batches of far strengths, where portions lie far off the line. */
    private static void manyBatches() {
        for (int round = 0; round < 12; round++) {
            BreweryCellar x = new BreweryCellar();
            Reference due = new Reference();
            for (int tank = 0; tank < 6; tank++) {
                x.size(tank, 9999);
                due.size(tank, 9999);
            }
            for (int batch = 0; batch < 16; batch++) {
                int litres = 1 + (batch * 7919 + round * 104729) % (round < 6 ? 9 : 1200);
                int strength = (batch + round) % 2 * (1990 + round % 10);
                x.brew(batch % 2 + 2, litres, strength);
                due.brew(batch % 2 + 2, litres, strength);
                x.transfer(batch % 2 + 2, batch / 8, litres);
                due.transfer(batch % 2 + 2, batch / 8, litres);
                x.clean(batch % 2 + 2);
                due.clean(batch % 2 + 2);
                x.pass(2);
                due.pass(2);
            }
            int all = x.ofTank(0, 1) + x.ofTank(1, 1);
            Check.due("ofTank(0, 5)", x.ofTank(0, 5), 8);
            for (int i = 1; i <= 10; i++) {
                int litres = Math.max(1, all * i / 10);
                int strength = 780 + 37 * i;
                Check.due("mix(0, 1, " + litres + ", " + strength + ") of round " + round,
                        x.mix(0, 1, litres, strength), due.mix(0, 1, litres, strength));
            }
        }
    }
}
