import java.util.function.Supplier;

/** Mixtures that come nearest to a strength: promise 20. A test below a quotation is about that sentence. */
final class MixTest {
    public static void main(String[] args) {
        noSuchTankOrTheSame();
        litresAreFrom1To9999();
        strengthIsFrom0To2000();
        eitherIsNotInUse();
        reasonsInTheirOrder();
        bothTogetherHaveTooFew();
        refusedAheadOfTooFew();
        nearest();
        exactQuotientCounts();
        fewestOfSeveral();
        amongAllWholeNumbers();
        allOfOneTank();
        proportionCounts();
        portionsFarOffTheLine();
        mixingIsAskedAlone();
        manyBatches();
        Check.finish();
    }

    private static void refused(int one, int other, int litres, int strength, int reason) {
        Twins.refused("mix(" + one + ", " + other + ", " + litres + ", " + strength + ")", Scenes::tanks, reason,
                x -> x.mix(one, other, litres, strength));
    }

    /** 100 litres of 500 in the tank 0, and 50 litres of 900 in the tank 1. */
    private static BreweryCellar two() {
        BreweryCellar x = new BreweryCellar();
        x.brew(0, 100, 500);
        x.brew(1, 50, 900);
        return x;
    }

    /** "STATE with the reason 1": "there is no such tank, or both are the same". */
    private static void noSuchTankOrTheSame() {
        for (int tank : Scenes.NO_TANKS) {
            refused(tank, 0, 5, 480, 1);
            refused(0, tank, 5, 480, 1);
            refused(tank, tank, 5, 480, 1);
        }
        refused(0, 0, 5, 480, 1);
        refused(5, 5, 5, 480, 1);
        BreweryCellar x = two();
        x.brew(5, 10, 100);
        Check.due("mix(5, 0, 5, 0)", x.mix(5, 0, 5, 0), 5);
        Check.due("mix(0, 5, 5, 0)", x.mix(0, 5, 5, 0), 0);
    }

    /** "8 (litres not from 1 to 9999 ..". */
    private static void litresAreFrom1To9999() {
        for (int litres : new int[] {0, -1, 10000, Integer.MIN_VALUE, Integer.MAX_VALUE}) {
            refused(0, 1, litres, 480, 8);
        }
        BreweryCellar x = new BreweryCellar();
        x.size(0, 9999);
        x.size(1, 9999);
        x.brew(0, 9999, 0);
        x.brew(1, 9999, 2000);
        Check.due("mix(0, 1, 1, 999)", x.mix(0, 1, 1, 999), 1);
        Check.due("mix(0, 1, 1, 1001)", x.mix(0, 1, 1, 1001), 0);
        Check.due("mix(0, 1, 9999, 0)", x.mix(0, 1, 9999, 0), 9999);
        Check.due("mix(0, 1, 9999, 2000)", x.mix(0, 1, 9999, 2000), 0);
        Check.due("mix(0, 1, 9999, 1000)", x.mix(0, 1, 9999, 1000), 4999);
    }

    /** ".. or the strength)": "the wanted strength, 0 to 2000". */
    private static void strengthIsFrom0To2000() {
        for (int strength : new int[] {-1, 2001, Integer.MIN_VALUE, Integer.MAX_VALUE}) {
            refused(0, 1, 5, strength, 8);
        }
        Check.due("mix(0, 1, 5, 0)", two().mix(0, 1, 5, 0), 5);
        Check.due("mix(0, 1, 5, 2000)", two().mix(0, 1, 5, 2000), 0);
    }

    /** "2 (either is not in use)". */
    private static void eitherIsNotInUse() {
        for (int tank = 2; tank <= 4; tank++) {
            refused(0, tank, 5, 480, 2);
            refused(tank, 0, 5, 480, 2);
        }
        refused(2, 3, 5, 480, 2);
        refused(4, 5, 5, 480, 2);
    }

    /** "In this order." */
    private static void reasonsInTheirOrder() {
        refused(0, 0, 0, 480, 1);
        refused(4, 4, 5, 480, 1);
        refused(6, 4, 5, 2001, 1);
        refused(4, 0, 0, 480, 8);
        refused(0, 2, 5, -1, 8);
        refused(2, 3, 10000, 480, 8);
    }

    /** "-5 if both together have too few". */
    private static void bothTogetherHaveTooFew() {
        Supplier<BreweryCellar> made = () -> {
            BreweryCellar x = two();
            x.clean(0);
            return x;
        };
        Twins.unchanged("mix(0, 1, 151, 500)", made, -5, x -> x.mix(0, 1, 151, 500));
        Twins.unchanged("mix(1, 0, 151, 500)", made, -5, x -> x.mix(1, 0, 151, 500));
        Twins.unchanged("mix(0, 1, 9999, 500)", made, -5, x -> x.mix(0, 1, 9999, 500));
        Twins.unchanged("mix(0, 1, 150, 500)", made, 100, x -> x.mix(0, 1, 150, 500));
        Twins.unchanged("mix(1, 0, 150, 500)", made, 50, x -> x.mix(1, 0, 150, 500));
    }

    /** "mix() is refused ahead of -5." "The result -5 is returned only if no error applies." */
    private static void refusedAheadOfTooFew() {
        refused(0, 4, 9999, 480, 2);
        refused(4, 0, 501, 480, 2);
        refused(0, 0, 9999, 480, 1);
        refused(0, 1, 9999, 2001, 8);
        Twins.unchanged("mix(0, 1, 801, 480)", Scenes::tanks, -5, x -> x.mix(0, 1, 801, 480));
    }

    private static void nearest() {
        BreweryCellar x = two();
        Check.due("mix(0, 1, 40, 600)", x.mix(0, 1, 40, 600), 30);
        Check.due("mix(1, 0, 40, 600)", x.mix(1, 0, 40, 600), 10);
        Check.due("mix(0, 1, 40, 605)", x.mix(0, 1, 40, 605), 29);
        Check.due("mix(0, 1, 40, 604)", x.mix(0, 1, 40, 604), 30);
        Check.due("mix(0, 1, 40, 596)", x.mix(0, 1, 40, 596), 30);
        Check.due("mix(0, 1, 40, 594)", x.mix(0, 1, 40, 594), 31);
        Check.due("mix(0, 1, 40, 0)", x.mix(0, 1, 40, 0), 40);
        Check.due("mix(0, 1, 40, 2000)", x.mix(0, 1, 40, 2000), 0);
    }

    /** "The exact quotient of alcohol and litres counts", not the strength that is rounded down. */
    private static void exactQuotientCounts() {
        BreweryCellar x = new BreweryCellar();
        x.brew(0, 10, 0);
        x.brew(1, 10, 1);
        // 2, 1 and 0 litres of the tank 1 are told as 0 alike.
        Check.due("mix(0, 1, 3, 0)", x.mix(0, 1, 3, 0), 3);
        Check.due("mix(1, 0, 3, 0)", x.mix(1, 0, 3, 0), 0);
        Check.due("mix(1, 0, 3, 1)", x.mix(1, 0, 3, 1), 3);
        Check.due("mix(0, 1, 3, 1)", x.mix(0, 1, 3, 1), 0);
        BreweryCellar y = new BreweryCellar();
        y.brew(0, 10, 100);
        y.brew(1, 10, 103);
        // One litre of 103 among 5 is 100.6, and 2 are 101.2, which is nearer.
        Check.due("mix(1, 0, 5, 101)", y.mix(1, 0, 5, 101), 2);
        // 4 litres of 103 among 7 are 101.71, and 5 are 102.14, which is nearer.
        Check.due("mix(1, 0, 7, 102)", y.mix(1, 0, 7, 102), 5);
    }

    /** "Of several, the fewest litres of the first tank." */
    private static void fewestOfSeveral() {
        BreweryCellar x = new BreweryCellar();
        x.brew(0, 100, 500);
        x.brew(1, 50, 500);
        Check.due("mix(0, 1, 40, 600)", x.mix(0, 1, 40, 600), 0);
        Check.due("mix(0, 1, 40, 500)", x.mix(0, 1, 40, 500), 0);
        Check.due("mix(0, 1, 50, 500)", x.mix(0, 1, 50, 500), 0);
        Check.due("mix(0, 1, 51, 500)", x.mix(0, 1, 51, 500), 1);
        Check.due("mix(1, 0, 60, 500)", x.mix(1, 0, 60, 500), 0);
        x.brew(2, 50, 400);
        // one litre of three and 2 litres of three are as far off
        Check.due("mix(0, 2, 3, 450)", x.mix(0, 2, 3, 450), 1);
        Check.due("mix(2, 0, 3, 450)", x.mix(2, 0, 3, 450), 1);
        Check.due("mix(0, 2, 1, 450)", x.mix(0, 2, 1, 450), 0);
        Check.due("mix(2, 0, 1, 450)", x.mix(2, 0, 1, 450), 0);
    }

    /** "A mixture is looked for among all whole numbers of litres": none and all of them too. */
    private static void amongAllWholeNumbers() {
        BreweryCellar x = two();
        Check.due("mix(0, 1, 1, 700)", x.mix(0, 1, 1, 700), 0);
        Check.due("mix(0, 1, 1, 699)", x.mix(0, 1, 1, 699), 1);
        Check.due("mix(1, 0, 1, 700)", x.mix(1, 0, 1, 700), 0);
        Check.due("mix(1, 0, 1, 701)", x.mix(1, 0, 1, 701), 1);
        for (int litres = 0; litres <= 10; litres++) {
            int strength = 900 - 40 * litres;
            Check.due("mix(0, 1, 10, " + strength + ")", x.mix(0, 1, 10, strength), litres);
        }
    }

    /** What each of the tanks has is not passed over. */
    private static void allOfOneTank() {
        BreweryCellar x = two();
        Check.due("mix(0, 1, 120, 2000)", x.mix(0, 1, 120, 2000), 70);
        Check.due("mix(0, 1, 120, 0)", x.mix(0, 1, 120, 0), 100);
        Check.due("mix(0, 1, 149, 0)", x.mix(0, 1, 149, 0), 100);
        Check.due("mix(0, 1, 149, 2000)", x.mix(0, 1, 149, 2000), 99);
        Check.due("mix(0, 1, 50, 2000)", x.mix(0, 1, 50, 2000), 0);
        Check.due("mix(0, 1, 51, 2000)", x.mix(0, 1, 51, 2000), 1);
        Check.due("mix(0, 1, 100, 0)", x.mix(0, 1, 100, 0), 100);
        Check.due("mix(0, 1, 101, 0)", x.mix(0, 1, 101, 0), 100);
    }

    /** "Where alcohol is that of litres taken in proportion". */
    private static void proportionCounts() {
        BreweryCellar x = new BreweryCellar();
        x.brew(0, 5, 100);
        x.brew(1, 3, 900);
        x.transfer(1, 0, 3);
        x.brew(2, 10, 0);
        // 1 litre of the tank 0 is of the batch 0 (100), 2 are one of each (1000), 3 are 2 and 1 (1100).
        Check.due("mix(0, 2, 4, 25)", x.mix(0, 2, 4, 25), 1);
        Check.due("mix(0, 2, 4, 250)", x.mix(0, 2, 4, 250), 2);
        Check.due("mix(0, 2, 4, 275)", x.mix(0, 2, 4, 275), 3);
        Check.due("mix(0, 2, 4, 137)", x.mix(0, 2, 4, 137), 1);
        Check.due("mix(0, 2, 4, 138)", x.mix(0, 2, 4, 138), 2);
        Check.due("mix(2, 0, 4, 137)", x.mix(2, 0, 4, 137), 3);
        Check.due("mix(2, 0, 4, 138)", x.mix(2, 0, 4, 138), 2);
    }

    /** Portions that are the nearest, though without whole litres they would lie further off than others. */
    private static void portionsFarOffTheLine() {
        BreweryCellar x = new BreweryCellar();
        x.brew(0, 1, 2000);
        x.brew(1, 9, 0);
        x.transfer(1, 0, 9);
        x.brew(2, 10, 0);
        // Up to 4 litres of the tank 0 have nothing of the batch 0, and from 5 on they have its litre.
        Check.due("mix(0, 2, 10, 170)", x.mix(0, 2, 10, 170), 5);
        Check.due("mix(2, 0, 10, 30)", x.mix(2, 0, 10, 30), 6);
        Check.due("mix(0, 2, 10, 30)", x.mix(0, 2, 10, 30), 0);
        Check.due("mix(2, 0, 10, 170)", x.mix(2, 0, 10, 170), 0);
        Check.due("mix(0, 2, 10, 101)", x.mix(0, 2, 10, 101), 5);
        Check.due("mix(0, 2, 10, 100)", x.mix(0, 2, 10, 100), 0);
        Check.due("mix(0, 2, 10, 99)", x.mix(0, 2, 10, 99), 0);
    }

    private static void mixingIsAskedAlone() {
        Twins.unchanged("mix(0, 1, 100, 1000)", Scenes::tanks, 66, x -> x.mix(0, 1, 100, 1000));
    }

    /** Great tanks with many batches of far strengths, where portions lie far off the line. */
    private static void manyBatches() {
        for (int round = 0; round < 12; round++) {
            BreweryCellar x = new BreweryCellar();
            Reference due = new Reference();
            for (int tank = 0; tank < 6; tank++) {
                x.size(tank, 9999);
                due.size(tank, 9999);
            }
            for (int batch = 0; batch < 16; batch++) {
                int litres = 1 + (batch * 7919 + round * 104729) % (round < 6 ? 9 : 1200);
                int strength = (batch + round) % 2 * (1990 + round % 10);
                x.brew(batch % 2 + 2, litres, strength);
                due.brew(batch % 2 + 2, litres, strength);
                x.transfer(batch % 2 + 2, batch / 8, litres);
                due.transfer(batch % 2 + 2, batch / 8, litres);
                x.clean(batch % 2 + 2);
                due.clean(batch % 2 + 2);
                x.pass(2);
                due.pass(2);
            }
            int all = x.ofTank(0, 1) + x.ofTank(1, 1);
            Check.due("ofTank(0, 5)", x.ofTank(0, 5), 8);
            for (int i = 1; i <= 10; i++) {
                int litres = Math.max(1, all * i / 10);
                int strength = 780 + 37 * i;
                Check.due("mix(0, 1, " + litres + ", " + strength + ") of round " + round,
                        x.mix(0, 1, litres, strength), due.mix(0, 1, litres, strength));
            }
        }
    }
}
