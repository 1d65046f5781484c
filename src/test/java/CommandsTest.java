/** Promises 14 to 16: the tape, its commands, and the reason of the latest refusal. */
final class CommandsTest {
    public static void main(String[] args) {
        feed();
        feedIsFull();
        errorPositions();
        rightTexts();
        commandsAreDone();
        nothingOfAllIsDone();
        reasonsOfCommands();
        runIsOneChange();
        reason();
        Check.finish();
    }

    private static void put(BreweryCellar x, String text) {
        for (int i = 0; i < text.length(); i++) {
            x.feed(1, text.charAt(i), 0, 0, 0, 0);
        }
    }

    private static int run(BreweryCellar x, String text) {
        put(x, text);
        return x.run();
    }

    private static void feed() {
        BreweryCellar x = new BreweryCellar();
        Check.due("feed(0, ..)", x.feed(0, 0, 0, 0, 0, 0), -2);
        Check.due("feed(6, ..)", x.feed(6, 0, 0, 0, 0, 0), -2);
        Check.due("feed(-1, ..)", x.feed(-1, 0, 0, 0, 0, 0), -2);
        for (int bad : new int[] {-1, 128}) {
            Check.due("feed of a bad a", x.feed(1, bad, 0, 0, 0, 0), -2);
            Check.due("feed of a bad b", x.feed(1, 0, bad, 0, 0, 0), -2);
            Check.due("feed of a bad c", x.feed(1, 0, 0, bad, 0, 0), -2);
            Check.due("feed of a bad d", x.feed(1, 0, 0, 0, bad, 0), -2);
            Check.due("feed of a bad e", x.feed(1, 0, 0, 0, 0, bad), -2);
        }
        Check.due("count(4)", x.count(4), 0);
        Check.due("reason()", x.reason(), -5);
        Check.due("feed(1, ..)", x.feed(1, 'd', 127, 127, 127, 127), 1);
        Check.due("feed(2, ..)", x.feed(2, '1', ';', 0, 0, 0), 3);
        Check.due("feed(3, ..)", x.feed(3, 'd', '2', ';', 0, 0), 6);
        Check.due("feed(4, ..)", x.feed(4, 'd', '3', ';', 'd', 0), 10);
        Check.due("feed(5, ..)", x.feed(5, '4', ';', 'd', '5', '0'), 15);
        Check.due("count(4)", x.count(4), 15);
        Check.due("count(5)", x.count(5), 0);
        Check.due("run()", x.run(), 5);
        Check.due("count(0)", x.count(0), 60);
        Check.due("count(4)", x.count(4), 0);
    }

    private static void feedIsFull() {
        BreweryCellar x = new BreweryCellar();
        for (int i = 0; i < 19; i++) {
            x.feed(3, 'd', '1', ';', 0, 0);
        }
        Check.due("feed(5, ..) of 57", x.feed(5, 'd', '1', ';', 'd', '1'), -4);
        Check.due("feed(4, ..) of 57", x.feed(4, 'd', '1', ';', 'd', 0), -4);
        Check.due("a bad byte at 57", x.feed(5, 128, '1', ';', 'd', '1'), -2);
        Check.due("count(4)", x.count(4), 57);
        Check.due("feed(3, ..) of 57", x.feed(3, 'd', '0', '1', 0, 0), 60);
        Check.due("feed(1, ..) of 60", x.feed(1, '1', 0, 0, 0, 0), -4);
        Check.due("run()", x.run(), 20);
        Check.due("count(0)", x.count(0), 20);
        for (int i = 0; i < 20; i++) {
            x.feed(3, 'd', '1', ';', 0, 0);
        }
        Check.due("run() of an open end", x.run(), -160);
        for (int i = 0; i < 19; i++) {
            x.feed(3, 'd', '1', ';', 0, 0);
        }
        x.feed(2, 'c', '5', 0, 0, 0);
        Check.due("run() refused at the end", x.run(), -219);
        Check.due("count(0)", x.count(0), 20);
    }

    private static void errorPositions() {
        BreweryCellar x = new BreweryCellar();
        x.brew(0, 100, 500);
        Check.due("lose(9, 1, 1)", x.lose(9, 1, 1), -3);
        wrong(x, 0, "", "x", "T0>1:5", ";", "0", " d1", "\0");
        wrong(x, 1, "t", "t:", "tt", "l", "lx", "f", "f#", "c", "cc", "c;", "d", "d;", "d-1");
        wrong(x, 2, "t0", "t0:", "t00>1:5", "l0", "l0>1", "f0", "f0:1", "c0d", "c00", "d1d", "d1 ", "d1/");
        wrong(x, 3, "t0>", "t0>:", "t0>x", "l0:", "l0:/", "f0#", "f0#x", "c0;", "c0;;", "d1;", "d1;x");
        wrong(x, 4, "t0>1", "t0>12", "t0>1;", "l0:5", "l0:5;", "l0:5:", "c0;d", "c0;t", "d11;");
        wrong(x, 5, "t0>1:", "t0>1:x", "l0:5/", "l0:5/;", "l0:12", "d12345", "f0#1;", "d1;d1x");
        wrong(x, 6, "t0>1:5x", "t0>1:5t0>1:5", "d1;d1;", "l0:5/12", "l0:123;");
        wrong(x, 7, "f0#12345", "t0>1:5;", "l0:5/1;", "l0:1234", "l0:12345/1");
        wrong(x, 9, "t0>1:00005");
        Check.due("reason()", x.reason(), 1);
        Check.due("count(5)", x.count(5), 1);
        Check.due("account(1)", x.account(1), 100);
        Check.due("count(0)", x.count(0), 0);
    }

    private static void wrong(BreweryCellar x, int position, String... texts) {
        for (String text : texts) {
            Check.due("run() of " + text, run(x, text), -100 - position);
            Check.due("count(4) after " + text, x.count(4), 0);
        }
    }

    private static void rightTexts() {
        BreweryCellar x = new BreweryCellar();
        x.brew(0, 1000, 500);
        x.order(0, 3, 0, 2000);
        Check.due("t", run(x, "t0>1:100"), 1);
        Check.due("t with zeros", run(x, "t0>1:0009"), 1);
        Check.due("ofTank(1, 1)", x.ofTank(1, 1), 109);
        Check.due("l", run(x, "l0:50/3"), 1);
        Check.due("account(6)", x.account(6), 50);
        Check.due("f", run(x, "f1#0000"), 1);
        Check.due("ofOrder(0, 4)", x.ofOrder(0, 4), 1);
        Check.due("l", run(x, "l1:106/1"), 1);
        Check.due("c", run(x, "c1"), 1);
        Check.due("ofTank(1, 4)", x.ofTank(1, 4), 2);
        Check.due("d", run(x, "d0999"), 1);
        Check.due("count(0)", x.count(0), 999);
        Check.due("ofTank(1, 2)", x.ofTank(1, 2), 0);
    }

    private static void commandsAreDone() {
        BreweryCellar x = new BreweryCellar();
        x.brew(0, 1000, 500);
        x.rate(1, 0, 100);
        x.order(0, 100, 0, 2000);
        Check.due("run()", run(x, "t0>2:200;d1;f2#0;l2:99/2;c2;d2;t0>2:7"), 7);
        Check.due("ofOrder(0, 6)", x.ofOrder(0, 6), 500);
        Check.due("ofTank(2, 1)", x.ofTank(2, 1), 7);
        Check.due("ofTank(0, 1)", x.ofTank(0, 1), 793);
        Check.due("count(0)", x.count(0), 3);
        Check.due("entry(-1, 0)", x.entry(-1, 0), 8);
        Check.due("entry(4, 1)", x.entry(4, 1), 4);
        Check.due("entry(4, 0)", x.entry(4, 0), 1);
    }

    private static void nothingOfAllIsDone() {
        BreweryCellar x = new BreweryCellar();
        x.brew(0, 1000, 500);
        x.order(0, 100, 0, 2000);
        Check.due("run()", run(x, "t0>2:200;d1;f2#0;c2;d2"), -203);
        Check.due("reason()", x.reason(), 7);
        Check.due("ofTank(0, 1)", x.ofTank(0, 1), 1000);
        Check.due("ofTank(2, 2)", x.ofTank(2, 2), 0);
        Check.due("count(0)", x.count(0), 0);
        Check.due("ofOrder(0, 4)", x.ofOrder(0, 4), 0);
        Check.due("account(2)", x.account(2), 0);
        Check.due("account(3)", x.account(3), 0);
        Check.due("entry(-1, 0)", x.entry(-1, 0), 1);
        Check.due("count(4)", x.count(4), 0);
        Check.due("count(5)", x.count(5), 2);
        // A wrong end is seen before anything is done.
        Check.due("run()", run(x, "d1;d"), -104);
        Check.due("count(0)", x.count(0), 0);
        Check.due("back()", x.back(), 1);
        Check.due("count(2)", x.count(2), 0);
    }

    private static void refusedCommand(BreweryCellar x, String text, int reason) {
        Check.due("run() of " + text, run(x, text), -200);
        Check.due("reason() after " + text, x.reason(), reason);
    }

    private static void reasonsOfCommands() {
        BreweryCellar x = new BreweryCellar();
        x.brew(0, 100, 500);
        x.size(1, 10);
        x.order(0, 200, 0, 2000);
        x.order(0, 20, 600, 2000);
        refusedCommand(x, "t6>0:5", 1);
        refusedCommand(x, "t0>9:5", 1);
        refusedCommand(x, "t0>0:5", 1);
        refusedCommand(x, "t0>1:0", 8);
        refusedCommand(x, "t2>1:5", 2);
        refusedCommand(x, "t0>1:101", 3);
        refusedCommand(x, "t0>1:11", 4);
        refusedCommand(x, "l7:5/1", 1);
        refusedCommand(x, "l0:0/1", 8);
        refusedCommand(x, "l0:5/0", 8);
        refusedCommand(x, "l0:5/4", 8);
        refusedCommand(x, "l1:5/1", 2);
        refusedCommand(x, "l0:101/1", 3);
        refusedCommand(x, "f8#0", 1);
        refusedCommand(x, "f0#2", 5);
        refusedCommand(x, "f0#9999", 5);
        refusedCommand(x, "f1#0", 2);
        refusedCommand(x, "f0#0", 3);
        refusedCommand(x, "f0#1", 6);
        refusedCommand(x, "c6", 1);
        refusedCommand(x, "c0", 7);
        refusedCommand(x, "d0", 8);
        refusedCommand(x, "d1000", 8);
        Check.due("count(5)", x.count(5), 4);
        Check.due("account(1)", x.account(1), 100);
    }

    private static void runIsOneChange() {
        BreweryCellar x = new BreweryCellar();
        x.brew(0, 100, 500);
        Check.due("run()", run(x, "t0>1:50;t1>2:25;d3"), 3);
        Check.due("count(5)", x.count(5), 2);
        put(x, "d7");
        Check.due("back()", x.back(), 1);
        Check.due("ofTank(0, 1)", x.ofTank(0, 1), 100);
        Check.due("count(0)", x.count(0), 0);
        Check.due("count(4)", x.count(4), 2);
        Check.due("run()", x.run(), 1);
        Check.due("count(0)", x.count(0), 7);
    }

    private static void reason() {
        BreweryCellar x = new BreweryCellar();
        Check.due("reason()", x.reason(), -5);
        x.brew(9, 1, 1);
        x.setLoss(1000);
        x.back();
        x.undo();
        Check.due("reason()", x.reason(), -5);
        x.clean(0);
        Check.due("reason()", x.reason(), 7);
        x.image();
        x.clean(6);
        x.pass(1);
        Check.due("reason()", x.reason(), 1);
        x.back();
        Check.due("reason()", x.reason(), 1);
        x.undo();
        Check.due("reason()", x.reason(), 1);
        Check.due("run()", x.run(), -100);
        Check.due("reason()", x.reason(), 1);
        Check.due("mix(0, 1, 0, 0)", x.mix(0, 1, 0, 0), -3);
        Check.due("reason()", x.reason(), 8);
        Check.due("count(5)", x.count(5), 0);
    }
}
