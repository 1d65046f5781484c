/** Transfers and losses: promises 4 to 6. A test below a quotation is about that sentence. */
final class TransfersTest {
    public static void main(String[] args) {
        noSuchTankOrTheSame();
        litresTransferredAreFrom1To9999();
        tankThatGivesIsInUse();
        tankThatTakesIsCleanOrInUse();
        tooFewLitres();
        tooLittleRoom();
        reasonsOfTransferInTheirOrder();
        transferLossIsRoundedDown();
        lostOfWhatWasTaken();
        whatComesInCountsAgainstTheRoom();
        transferredBlend();
        lossesHaveReasons();
        reasonsOfLoseInTheirOrder();
        litresLostAreFrom1To9999();
        reasonOfLossIsFrom1To3();
        tankThatLosesIsInUse();
        tooFewLitresToLose();
        transferLossIsFrom0To100();
        Check.finish();
    }

    private static void refused(int from, int to, int litres, int reason) {
        Twins.refused("transfer(" + from + ", " + to + ", " + litres + ")", Scenes::tanks, reason,
                x -> x.transfer(from, to, litres));
    }

    private static void refusedLoss(int tank, int litres, int why, int reason) {
        Twins.refused("lose(" + tank + ", " + litres + ", " + why + ")", Scenes::tanks, reason,
                x -> x.lose(tank, litres, why));
    }

    /** "1 there is no such tank, or both are the same". */
    private static void noSuchTankOrTheSame() {
        for (int tank : Scenes.NO_TANKS) {
            refused(tank, 0, 5, 1);
            refused(0, tank, 5, 1);
            refused(tank, tank, 5, 1);
        }
        for (int tank = 0; tank < 6; tank++) {
            refused(tank, tank, 5, 1);
        }
        BreweryCellar x = Scenes.brewed(50, 500);
        Check.due("transfer(0, 5, 20)", x.transfer(0, 5, 20), 20);
        Check.due("transfer(5, 0, 10)", x.transfer(5, 0, 10), 10);
    }

    /** "STATE with the reason .. 8 (litres not from 1 to 9999)". */
    private static void litresTransferredAreFrom1To9999() {
        for (int litres : new int[] {0, -1, 10000, Integer.MIN_VALUE, Integer.MAX_VALUE}) {
            refused(0, 4, litres, 8);
        }
        BreweryCellar x = Scenes.brewed(9999, 500);
        x.size(1, 9999);
        x.setLoss(0);
        Check.due("transfer(0, 1, 1)", x.transfer(0, 1, 1), 1);
        x.back();
        Check.due("transfer(0, 1, 9999)", x.transfer(0, 1, 9999), 9999);
    }

    /** "2 a tank that is to give something is not in use". */
    private static void tankThatGivesIsInUse() {
        refused(4, 0, 1, 2);
        refused(2, 0, 1, 2);
        refused(3, 0, 1, 2);
        Check.due("transfer(0, 4, 1) in use", Scenes.tanks().transfer(0, 4, 1), 1);
        Check.due("transfer(1, 4, 1) in use", Scenes.tanks().transfer(1, 4, 1), 1);
    }

    /** "or one that is to take something is dirty or being cleaned". */
    private static void tankThatTakesIsCleanOrInUse() {
        refused(0, 2, 1, 2);
        refused(0, 3, 1, 2);
        Check.due("transfer(0, 4, 1) into a clean tank", Scenes.tanks().transfer(0, 4, 1), 1);
        Check.due("transfer(1, 0, 1) into a tank in use", Scenes.tanks().transfer(1, 0, 1), 1);
        BreweryCellar x = Scenes.tanks();
        x.pass(2);
        Check.due("transfer(0, 3, 1) into a cleaned tank", x.transfer(0, 3, 1), 1);
    }

    /** "3 there are too few litres". */
    private static void tooFewLitres() {
        refused(0, 4, 501, 3);
        refused(0, 4, 9999, 3);
        refused(1, 4, 301, 3);
        BreweryCellar x = Scenes.tanks();
        Check.due("transfer(0, 4, 500)", x.transfer(0, 4, 500), 498);
        Check.due("ofTank(0, 1)", x.ofTank(0, 1), 0);
        Check.due("ofTank(0, 2)", x.ofTank(0, 2), 2);
    }

    /** "4 there is too little room". */
    private static void tooLittleRoom() {
        refused(0, 1, 1, 4);
        refused(0, 5, 11, 4);
        refused(0, 5, 500, 4);
        BreweryCellar x = Scenes.tanks();
        Check.due("transfer(0, 5, 10)", x.transfer(0, 5, 10), 10);
        Check.due("ofTank(5, 6)", x.ofTank(5, 6), 0);
        Check.refused(x, "transfer(0, 5, 1)", x.transfer(0, 5, 1), 4);
    }

    /** "STATE with the reason 1, 8, 2, 3 or 4, in this order". */
    private static void reasonsOfTransferInTheirOrder() {
        refused(0, 0, 0, 1);
        refused(6, 0, 10000, 1);
        refused(2, 2, 1, 1);
        refused(0, 0, 501, 1);
        refused(1, 1, 1, 1);
        refused(4, 0, 0, 8);
        refused(0, 2, 0, 8);
        refused(0, 1, 10000, 8);
        refused(4, 0, 9999, 2);
        refused(0, 2, 501, 2);
        refused(4, 1, 1, 2);
        refused(0, 1, 501, 3);
        refused(0, 5, 9999, 3);
    }

    /** "These litres times the transfer loss, divided by 1000 and rounded down". */
    private static void transferLossIsRoundedDown() {
        // the transfer loss, the litres, and what is lost
        int[][] due = {
            {0, 9999, 0}, {1, 999, 0}, {1, 1000, 1}, {1, 1999, 1}, {1, 9999, 9}, {5, 199, 0}, {5, 200, 1},
            {5, 399, 1}, {5, 400, 2}, {5, 9999, 49}, {100, 9, 0}, {100, 10, 1}, {100, 19, 1}, {100, 9999, 999},
            {99, 10, 0}, {99, 11, 1}, {99, 1000, 99}
        };
        for (int[] one : due) {
            BreweryCellar x = Scenes.brewed(9999, 500);
            x.size(1, 9999);
            x.setLoss(one[0]);
            String call = "transfer(0, 1, " + one[1] + ") at " + one[0];
            Check.due(call, x.transfer(0, 1, one[1]), one[1] - one[2]);
            Check.due("ofTank(0, 1) after " + call, x.ofTank(0, 1), 9999 - one[1]);
            Check.due("ofTank(1, 1) after " + call, x.ofTank(1, 1), one[1] - one[2]);
            Check.due("account(3) after " + call, x.account(3), one[2]);
            Check.due("ofBatch(0, 4) after " + call, x.ofBatch(0, 4), one[2]);
            Check.due("entries after " + call, x.entry(-1, 0), one[2] > 0 ? 4 : 3);
        }
        Check.due("transfer(0, 1, 200) at first", Scenes.brewed(200, 5).transfer(0, 1, 200), 199);
    }

    /** "What is lost by a transfer is taken out of what was taken by the same rule." */
    private static void lostOfWhatWasTaken() {
        BreweryCellar x = Scenes.blended(10, 11);
        x.setLoss(100);
        // Of the 5 and 5 litres that are taken the lower batch loses one, though the tank has more of the other.
        Check.due("transfer(5, 4, 10)", x.transfer(5, 4, 10), 9);
        Check.due("litres(4, 0)", x.litres(4, 0), 4);
        Check.due("litres(4, 1)", x.litres(4, 1), 5);
        Check.due("litres(5, 0)", x.litres(5, 0), 5);
        Check.due("litres(5, 1)", x.litres(5, 1), 6);
        Check.due("ofBatch(0, 4)", x.ofBatch(0, 4), 1);
        Check.due("ofBatch(1, 4)", x.ofBatch(1, 4), 0);
        // Of 5 and 15 litres that are taken 2 are lost: half a litre and one and a half, so that one is missing.
        BreweryCellar y = Scenes.blended(5, 15);
        y.setLoss(100);
        Check.due("transfer(5, 4, 20)", y.transfer(5, 4, 20), 18);
        Check.due("ofBatch(0, 4)", y.ofBatch(0, 4), 1);
        Check.due("ofBatch(1, 4)", y.ofBatch(1, 4), 1);
        Check.due("ofTank(5, 2)", y.ofTank(5, 2), 2);
    }

    /** "For reason 4 the litres that come in count against the room." */
    private static void whatComesInCountsAgainstTheRoom() {
        BreweryCellar x = Scenes.brewed(200, 500);
        x.setLoss(100);
        x.size(1, 89);
        Check.refused(x, "transfer(0, 1, 100) into 89", x.transfer(0, 1, 100), 4);
        Check.due("transfer(0, 1, 98) into 89", x.transfer(0, 1, 98), 89);
        x.back();
        x.size(1, 90);
        Check.due("transfer(0, 1, 100) into 90", x.transfer(0, 1, 100), 90);
        Check.due("ofTank(1, 6)", x.ofTank(1, 6), 0);
        Check.refused(x, "transfer(0, 1, 1) into a full tank", x.transfer(0, 1, 1), 4);
        x.size(1, 98);
        Check.refused(x, "transfer(0, 1, 10) into 8", x.transfer(0, 1, 10), 4);
        x.size(1, 99);
        Check.due("transfer(0, 1, 10) into 9", x.transfer(0, 1, 10), 9);
    }

    /** What comes to a tank in use is added to what is there. */
    private static void transferredBlend() {
        BreweryCellar x = Scenes.brewed(100, 500);
        x.brew(1, 60, 900);
        Check.due("transfer(1, 0, 20)", x.transfer(1, 0, 20), 20);
        Check.due("ofTank(0, 1)", x.ofTank(0, 1), 120);
        Check.due("litres(0, 0)", x.litres(0, 0), 100);
        Check.due("litres(0, 1)", x.litres(0, 1), 20);
        Check.due("transfer(1, 0, 40)", x.transfer(1, 0, 40), 40);
        Check.due("litres(0, 1)", x.litres(0, 1), 60);
        Check.due("ofTank(0, 3)", x.ofTank(0, 3), 650);
    }

    /** "A loss has a reason: 0 transfer, 1 spill, 2 sample, 3 filter." lose: "Returns the litres that are left". */
    private static void lossesHaveReasons() {
        BreweryCellar x = Scenes.brewed(1000, 500);
        x.transfer(0, 1, 800);
        Check.due("lose(0, 10, 1)", x.lose(0, 10, 1), 190);
        Check.due("lose(0, 7, 2)", x.lose(0, 7, 2), 183);
        Check.due("lose(0, 5, 3)", x.lose(0, 5, 3), 178);
        Check.due("lose(1, 1, 3)", x.lose(1, 1, 3), 795);
        Check.due("account(3)", x.account(3), 4);
        Check.due("account(4)", x.account(4), 10);
        Check.due("account(5)", x.account(5), 7);
        Check.due("account(6)", x.account(6), 6);
        Check.due("ofBatch(0, 4)", x.ofBatch(0, 4), 27);
        Check.due("lose(0, 178, 1)", x.lose(0, 178, 1), 0);
        Check.due("account(4)", x.account(4), 188);
    }

    /** "STATE with the reason 1, 8 (also for no such reason of a loss), 2 or 3, in this order." */
    private static void reasonsOfLoseInTheirOrder() {
        for (int tank : Scenes.NO_TANKS) {
            refusedLoss(tank, 5, 1, 1);
            refusedLoss(tank, 0, 0, 1);
        }
        refusedLoss(4, 0, 1, 8);
        refusedLoss(2, 5, 4, 8);
        refusedLoss(0, 501, 0, 8);
        refusedLoss(4, 9999, 1, 2);
        refusedLoss(2, 1, 1, 2);
        refusedLoss(0, 501, 1, 3);
    }

    /** "8 a number is out of range", for the litres. */
    private static void litresLostAreFrom1To9999() {
        for (int litres : new int[] {0, -1, 10000, Integer.MIN_VALUE, Integer.MAX_VALUE}) {
            refusedLoss(0, litres, 1, 8);
        }
        Check.due("lose(0, 1, 1)", Scenes.tanks().lose(0, 1, 1), 499);
        BreweryCellar x = Scenes.brewed(9999, 500);
        Check.due("lose(0, 9999, 1)", x.lose(0, 9999, 1), 0);
        Check.due("account(4)", x.account(4), 9999);
    }

    /** lose: "the reason of the loss, 1 to 3"; "a loss for no such reason" is "refused for 8". */
    private static void reasonOfLossIsFrom1To3() {
        for (int why : new int[] {0, 4, -1, 8, Integer.MIN_VALUE, Integer.MAX_VALUE}) {
            refusedLoss(0, 5, why, 8);
        }
        for (int why = 1; why <= 3; why++) {
            BreweryCellar x = Scenes.tanks();
            long before = x.account(3 + why);
            Check.due("lose(0, 5, " + why + ")", x.lose(0, 5, why), 495);
            Check.due("account(" + (3 + why) + ")", x.account(3 + why), before + 5);
        }
    }

    /** "2 a tank that is to give something is not in use". */
    private static void tankThatLosesIsInUse() {
        refusedLoss(4, 1, 1, 2);
        refusedLoss(2, 1, 1, 2);
        refusedLoss(3, 1, 1, 2);
    }

    /** "3 there are too few litres". */
    private static void tooFewLitresToLose() {
        refusedLoss(0, 501, 3, 3);
        refusedLoss(0, 9999, 3, 3);
        Check.due("lose(0, 500, 3)", Scenes.tanks().lose(0, 500, 3), 0);
        Check.due("lose(0, 499, 3)", Scenes.tanks().lose(0, 499, 3), 1);
    }

    /** "The transfer loss is from 0 to 100, at first 5." "Returns the one before; BAD if it is out of range." */
    private static void transferLossIsFrom0To100() {
        BreweryCellar x = new BreweryCellar();
        Check.due("count(6)", x.count(6), 5);
        Check.due("setLoss(100)", x.setLoss(100), 5);
        Check.due("count(6)", x.count(6), 100);
        Check.due("setLoss(0)", x.setLoss(0), 100);
        Check.due("count(6)", x.count(6), 0);
        Check.due("setLoss(0)", x.setLoss(0), 0);
        Check.due("setLoss(3)", x.setLoss(3), 0);
        for (int loss : new int[] {-1, 101, Integer.MIN_VALUE, Integer.MAX_VALUE}) {
            Twins.unchanged("setLoss(" + loss + ")", Scenes::tanks, -2, c -> c.setLoss(loss));
        }
    }
}
