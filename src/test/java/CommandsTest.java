import java.util.function.Supplier;
import java.util.function.ToLongFunction;

/** The tape, its commands, and reasons: promises 14 to 16. A test below a quotation is about that sentence. */
final class CommandsTest {
    private static final String DIGITS = "0123456789";
    private static final String LETTERS = "tlfcd";

    public static void main(String[] args) {
        bytesFedAre1To5();
        bytesAreFrom0To127();
        bytesAreAppendedInTheirOrder();
        tapeIsOf60BytesAtMost();
        badAheadOfFull();
        eachByteBehindEachStart();
        textThatEndsTooEarly();
        firstByteThatIsWrong();
        numbersHave1To4Digits();
        digitsNameTanksAndReasons();
        eachCommandIsDone();
        commandsAreDoneOneAfterTheOther();
        numberOfCommands();
        nothingOfAllIsDone();
        wrongTextIsSeenAheadOfRefusals();
        reasonOfRefusedCommand();
        tapeIsAlwaysEmptied();
        runIsOneChange();
        latestReasonIsTold();
        errorsWithoutReasonLeaveIt();
        Check.finish();
    }

    /** feed: "the number of bytes, 1 to 5"; "BAD if n .. is out of range". */
    private static void bytesFedAre1To5() {
        for (int n : new int[] {0, 6, -1, Integer.MIN_VALUE, Integer.MAX_VALUE}) {
            Twins.unchanged("feed(" + n + ", ..)", Scenes::tanks, -2, x -> x.feed(n, '0', '0', '0', '0', '0'));
        }
        BreweryCellar x = new BreweryCellar();
        int length = 0;
        for (int n = 1; n <= 5; n++) {
            length += n;
            Check.due("feed(" + n + ", ..)", x.feed(n, '0', '0', '0', '0', '0'), length);
            Check.due("count(4)", x.count(4), length);
        }
        Check.due("count(5)", x.count(5), 0);
    }

    /** "A byte, 0 to 127"; "BAD if .. any of the bytes is out of range, also of those that are not appended". */
    private static void bytesAreFrom0To127() {
        for (int bad : new int[] {-1, 128, Integer.MIN_VALUE, Integer.MAX_VALUE}) {
            for (int n = 1; n <= 5; n++) {
                int number = n;
                String call = "feed(" + n + ", ..) with " + bad + " as ";
                Twins.unchanged(call + "a", Scenes::tanks, -2, x -> x.feed(number, bad, '0', '0', '0', '0'));
                Twins.unchanged(call + "b", Scenes::tanks, -2, x -> x.feed(number, '0', bad, '0', '0', '0'));
                Twins.unchanged(call + "c", Scenes::tanks, -2, x -> x.feed(number, '0', '0', bad, '0', '0'));
                Twins.unchanged(call + "d", Scenes::tanks, -2, x -> x.feed(number, '0', '0', '0', bad, '0'));
                Twins.unchanged(call + "e", Scenes::tanks, -2, x -> x.feed(number, '0', '0', '0', '0', bad));
            }
        }
        BreweryCellar x = new BreweryCellar();
        Check.due("feed of 0", x.feed(5, 0, 0, 0, 0, 0), 5);
        Check.due("feed of 127", x.feed(5, 127, 127, 127, 127, 127), 10);
        Check.due("feed of 127 that are not appended", x.feed(1, 0, 127, 127, 127, 127), 11);
    }

    /** "a is the first one, b the second, and so on". */
    private static void bytesAreAppendedInTheirOrder() {
        BreweryCellar x = new BreweryCellar();
        Check.due("feed(1, ..)", x.feed(1, 'd', '9', '9', '9', '9'), 1);
        Check.due("feed(2, ..)", x.feed(2, '1', ';', '9', '9', '9'), 3);
        Check.due("feed(3, ..)", x.feed(3, 'd', '2', ';', '9', '9'), 6);
        Check.due("feed(4, ..)", x.feed(4, 'd', '3', ';', 'd', '9'), 10);
        Check.due("feed(5, ..)", x.feed(5, '4', ';', 'd', '5', '6'), 15);
        Check.due("run()", x.run(), 5);
        Check.due("count(0)", x.count(0), 1 + 2 + 3 + 4 + 56);
    }

    private static Supplier<BreweryCellar> tapeOf(int bytes) {
        return () -> {
            BreweryCellar x = new BreweryCellar();
            x.pass(1);
            for (int i = 0; i < bytes; i++) {
                x.feed(1, "d1;".charAt(i % 3), 0, 0, 0, 0);
            }
            return x;
        };
    }

    /** "FULL if the tape would be longer than 60 bytes, and then none is appended." */
    private static void tapeIsOf60BytesAtMost() {
        for (int n = 1; n <= 5; n++) {
            int number = n;
            BreweryCellar x = tapeOf(60 - n).get();
            Check.due("feed(" + n + ", ..) of " + (60 - n), x.feed(n, '0', '0', '0', '0', '0'), 60);
            Check.due("count(4)", x.count(4), 60);
            for (int length = 61 - n; length <= 60; length++) {
                Twins.unchanged("feed(" + n + ", ..) of " + length, tapeOf(length), -4,
                        c -> c.feed(number, '0', '0', '0', '0', '0'));
            }
        }
        BreweryCellar y = tapeOf(57).get();
        Check.due("feed(5, ..) of 57", y.feed(5, 'd', '2', ';', 'd', '2'), -4);
        Check.due("feed(3, ..) of 57", y.feed(3, 'd', '3', '0', 0, 0), 60);
        Check.due("run()", y.run(), 20);
        Check.due("count(0)", y.count(0), 1 + 19 + 30);
        Check.due("feed(5, ..) of the emptied tape", y.feed(5, 'd', '2', ';', 'd', '2'), 5);
    }

    /** "If several errors apply, the one that is listed first in the @return line is returned." */
    private static void badAheadOfFull() {
        Twins.unchanged("feed(6, ..) of 60", tapeOf(60), -2, x -> x.feed(6, 0, 0, 0, 0, 0));
        Twins.unchanged("feed(1, 128, ..) of 60", tapeOf(60), -2, x -> x.feed(1, 128, 0, 0, 0, 0));
        Twins.unchanged("feed(1, .., -1) of 60", tapeOf(60), -2, x -> x.feed(1, 0, 0, 0, 0, -1));
    }

    /**
     * The form of commands: "a digit is one from 0 to 9", "a number has 1 to 4 digits". Behind each start each byte is
     * tried: one that can't stand there is the error position; with one that can, the text ends too early or is right.
     */
    private static void eachByteBehindEachStart() {
        String[][] starts = {
            {"", LETTERS}, {"d1;", LETTERS}, {"t0>1:5;", LETTERS}, {"l0:1/1;", LETTERS}, {"f0#1;", LETTERS},
            {"c0;", LETTERS}, {"t", DIGITS}, {"t0", ">"}, {"t9>", DIGITS}, {"t0>1", ":"}, {"t0>9:", DIGITS, "right"},
            {"t0>1:5", DIGITS + ";", "right"}, {"t0>1:55", DIGITS + ";", "right"},
            {"t0>1:555", DIGITS + ";", "right"}, {"t0>1:5555", ";"}, {"l", DIGITS}, {"l0", ":"}, {"l9:", DIGITS},
            {"l0:1", DIGITS + "/"}, {"l0:12", DIGITS + "/"}, {"l0:123", DIGITS + "/"}, {"l0:1234", "/"},
            {"l0:1/", DIGITS, "right"}, {"l0:1/9", ";"}, {"l0:1234/", DIGITS, "right"}, {"f", DIGITS}, {"f9", "#"},
            {"f0#", DIGITS, "right"}, {"f0#0", DIGITS + ";", "right"}, {"f0#00", DIGITS + ";", "right"},
            {"f0#000", DIGITS + ";", "right"}, {"f0#0000", ";"}, {"c", DIGITS, "right"}, {"c9", ";"},
            {"d", DIGITS, "right"}, {"d1", DIGITS + ";", "right"}, {"d12", DIGITS + ";", "right"},
            {"d123", DIGITS + ";", "right"}, {"d1234", ";"}, {"d1;d", DIGITS, "right"}, {"d1;d1;t", DIGITS}
        };
        for (String[] start : starts) {
            for (int sign = 0; sign <= 127; sign++) {
                BreweryCellar x = new BreweryCellar();
                Scenes.put(x, start[0]);
                x.feed(1, sign, 0, 0, 0, 0);
                int answer = x.run();
                String call = "run() of " + start[0] + " and the byte " + sign;
                int length = start[0].length();
                if (start[1].indexOf(sign) < 0) {
                    Check.due(call, answer, -100 - length);
                } else if (start.length == 3 && sign != ';') {
                    Check.holds(call + " is right, not " + answer, answer > -100 || answer <= -200);
                } else {
                    Check.due(call, answer, -100 - length - 1);
                }
            }
        }
    }

    private static void wrong(BreweryCellar x, int position, String... texts) {
        for (String text : texts) {
            Check.due("run() of " + text, Scenes.run(x, text), -100 - position);
            Check.due("count(4) after " + text, x.count(4), 0);
        }
    }

    /** "Or its length if it ends too early": so an empty text is wrong at 0. */
    private static void textThatEndsTooEarly() {
        wrong(new BreweryCellar(), 0, "");
        for (String text : new String[] {"t0>1:", "l0:123/", "f0#", "c", "d", "d1;", "c0;t0>1:5;", "d1;d1;d1;f0#"}) {
            wrong(new BreweryCellar(), text.length(), text);
        }
        wrong(tapeOf(60).get(), 60, "");
        Twins.unchanged("run() of nothing", Scenes::tanksWithoutText, -100, BreweryCellar::run);
        Twins.unchanged("run() of an open end", Scenes::tanksWithoutText, -103, x -> Scenes.run(x, "d1;"));
    }

    /** "The index of its first byte with which no such text can continue". */
    private static void firstByteThatIsWrong() {
        BreweryCellar x = new BreweryCellar();
        wrong(x, 0, "x", "T0>1:5", ";", "0", " d1", "\0", "xx");
        wrong(x, 1, "t:", "tt", "lx", "f#", "cc", "c;", "d;", "d-1", "cxx");
        wrong(x, 2, "t0:", "t00>1:5", "l0>1", "f0:1", "c0d", "c00", "d1d", "d1 ", "d1/");
        wrong(x, 3, "t0>:", "t0>x", "l0:/", "f0#x", "c0;;", "d1;x");
        wrong(x, 4, "t0>12", "t0>1;", "l0:5;", "l0:5:", "d1;d;");
        wrong(x, 5, "t0>1:x", "l0:5/;", "d12345", "d1;d1x");
        wrong(x, 6, "t0>1:5x", "t0>1:5t0>1:5", "l0:5/12", "l0:123;");
        // The first wrong byte counts, whatever follows.
        wrong(x, 2, "d1xd1yd1", "d1 ;d1");
        BreweryCellar y = tapeOf(59).get();
        y.feed(1, '0', 0, 0, 0, 0);
        Check.due("run() of 60 right bytes", y.run(), 20);
        y = tapeOf(59).get();
        y.feed(1, 'x', 0, 0, 0, 0);
        Check.due("run() with the last byte wrong", y.run(), -159);
    }

    /** "A number has 1 to 4 digits, zeros at the front allowed." */
    private static void numbersHave1To4Digits() {
        for (String number : new String[] {"7", "07", "007", "0007"}) {
            BreweryCellar x = Scenes.brewed(100, 500);
            Check.due("t with " + number, Scenes.run(x, "t0>1:" + number), 1);
            Check.due("ofTank(1, 1)", x.ofTank(1, 1), 7);
            Check.due("l with " + number, Scenes.run(x, "l0:" + number + "/1"), 1);
            Check.due("account(4)", x.account(4), 7);
            Check.due("d with " + number, Scenes.run(x, "d" + number), 1);
            Check.due("count(0)", x.count(0), 7);
            for (int order = 0; order < 8; order++) {
                x.order(0, 1, 0, 2000);
            }
            Check.due("f with " + number, Scenes.run(x, "f0#" + number), 1);
            Check.due("ofOrder(7, 4)", x.ofOrder(7, 4), 1);
        }
        wrong(new BreweryCellar(), 9, "t0>1:00007");
        wrong(new BreweryCellar(), 7, "l0:00007/1", "f0#00007");
        wrong(new BreweryCellar(), 5, "d00007");
        BreweryCellar y = Scenes.brewed(9999, 500);
        Check.due("l with 9999", Scenes.run(y, "l0:9999/1"), 1);
        Check.due("account(4)", y.account(4), 9999);
    }

    private static void digitsNameTanksAndReasons() {
        BreweryCellar x = Scenes.brewed(600, 500);
        Check.due("run()", Scenes.run(x, "t0>5:100;t5>4:50;l4:9/1;l4:8/2;l4:7/3"), 5);
        Check.due("ofTank(5, 1)", x.ofTank(5, 1), 50);
        Check.due("ofTank(4, 1)", x.ofTank(4, 1), 26);
        Check.due("account(4)", x.account(4), 9);
        Check.due("account(5)", x.account(5), 8);
        Check.due("account(6)", x.account(6), 7);
        for (String digit : new String[] {"6", "7", "8", "9"}) {
            refusedCommand("t" + digit + ">0:5", 1);
            refusedCommand("t0>" + digit + ":5", 1);
            refusedCommand("l" + digit + ":5/1", 1);
            refusedCommand("f" + digit + "#0", 1);
            refusedCommand("c" + digit, 1);
            refusedCommand("l0:5/" + digit, 8);
        }
    }

    /** "t transfers, l loses for a reason, f fills an order from a tank, c cleans a tank, d lets days pass." */
    private static void eachCommandIsDone() {
        BreweryCellar x = Scenes.brewed(1000, 500);
        x.order(0, 3, 0, 2000);
        Check.due("t", Scenes.run(x, "t0>1:200"), 1);
        Check.due("ofTank(1, 1)", x.ofTank(1, 1), 199);
        Check.due("ofTank(0, 1)", x.ofTank(0, 1), 800);
        Check.due("l", Scenes.run(x, "l0:50/3"), 1);
        Check.due("account(6)", x.account(6), 50);
        Check.due("f", Scenes.run(x, "f1#0"), 1);
        Check.due("ofOrder(0, 4)", x.ofOrder(0, 4), 1);
        Check.due("ofTank(1, 1)", x.ofTank(1, 1), 196);
        Check.due("l", Scenes.run(x, "l1:196/1"), 1);
        Check.due("c", Scenes.run(x, "c1"), 1);
        Check.due("ofTank(1, 4)", x.ofTank(1, 4), 2);
        Check.due("d", Scenes.run(x, "d999"), 1);
        Check.due("count(0)", x.count(0), 999);
        Check.due("ofTank(1, 2)", x.ofTank(1, 2), 0);
        Check.due("entry(-1, 0)", x.entry(-1, 0), 7);
    }

    /** "The commands are done one after the other". */
    private static void commandsAreDoneOneAfterTheOther() {
        BreweryCellar x = Scenes.brewed(1000, 500);
        x.rate(1, 0, 100);
        x.order(0, 100, 0, 2000);
        Check.due("run()", Scenes.run(x, "t0>2:200;d1;f2#0;l2:99/2;c2;d2;t0>2:7"), 7);
        Check.due("ofOrder(0, 6)", x.ofOrder(0, 6), 500);
        Check.due("ofTank(2, 1)", x.ofTank(2, 1), 7);
        Check.due("ofTank(0, 1)", x.ofTank(0, 1), 793);
        Check.due("count(0)", x.count(0), 3);
        int[] kinds = {0, 1, 3, 2, 4, 3, 1, 2};
        int[] days = {0, 0, 0, 0, 1, 1, 3, 3};
        for (int i = 0; i < kinds.length; i++) {
            Check.due("entry(" + i + ", 0)", x.entry(i, 0), days[i]);
            Check.due("entry(" + i + ", 1)", x.entry(i, 1), kinds[i]);
        }
    }

    /** "Returns the number of commands"; "-200 minus the number of the command that is refused, from 0." */
    private static void numberOfCommands() {
        StringBuilder text = new StringBuilder("d1");
        for (int number = 1; number <= 20; number++) {
            BreweryCellar x = new BreweryCellar();
            Check.due("run() of " + number, Scenes.run(x, text.toString()), number);
            Check.due("count(0)", x.count(0), number);
            if (number < 20) {
                BreweryCellar y = new BreweryCellar();
                Check.due("run() refused at " + number, Scenes.run(y, text + ";c0"), -200 - number);
                Check.due("count(0)", y.count(0), 0);
                Check.due("reason()", y.reason(), 7);
            }
            text.append(";d1");
        }
        BreweryCellar z = new BreweryCellar();
        Check.due("run() refused at once", Scenes.run(z, "c0;d1;d1"), -200);
        Check.due("the first refused one is told", Scenes.run(z, "d1;d0;c6;c0"), -201);
        Check.due("reason()", z.reason(), 8);
    }

    /**
     * "If one of them is refused, or is about something that there is not or a number out of range, nothing of all is
     * done."
     */
    private static void nothingOfAllIsDone() {
        String done = "t0>4:200;l1:9/2;f0#0;c2;d2;";
        Check.due("run() of " + done, Scenes.run(Scenes.tanksWithoutText(), done + "t0>1:9"), 6);
        behind(done, 1, "t0>6:5", "t0>0:5", "l7:5/1", "f8#0", "c6");
        behind(done, 2, "t5>0:5", "l2:5/1", "f2#3");
        behind(done, 3, "t0>4:201", "l1:292/1");
        behind(done, 4, "t0>1:10", "t0>5:11");
        behind(done, 5, "f0#0", "f0#1", "f0#2", "f0#4", "f0#9999");
        behind(done, 6, "f1#3");
        behind(done, 7, "c0", "c2", "c4");
        behind(done, 8, "t0>4:0", "l0:0/1", "l0:5/0", "l0:5/4", "d0", "d1000", "d9999");
        Twins.leaves("run() above the last day", Scenes.onDay(9998), atOnce("d1;d1"), -201, 8);
    }

    /** That each of these commands is refused behind 5 that are done, and that then nothing of all is done. */
    private static void behind(String done, int reason, String... commands) {
        for (String command : commands) {
            Twins.leaves("run() of " + done + command, () -> {
                BreweryCellar x = Scenes.tanksWithoutText();
                x.order(0, 5, 0, 480);
                return x;
            }, atOnce(done + command), -205, reason);
        }
    }

    private static ToLongFunction<BreweryCellar> atOnce(String text) {
        return x -> Scenes.run(x, text);
    }

    private static void wrongTextIsSeenAheadOfRefusals() {
        Twins.unchanged("run() of d1;d", Scenes::tanksWithoutText, -104, atOnce("d1;d"));
        Twins.unchanged("run() of c0;x", Scenes::tanksWithoutText, -103, atOnce("c0;x"));
        Twins.unchanged("run() of t9>9:0;", Scenes::tanksWithoutText, -107, atOnce("t9>9:0;"));
    }

    private static void refusedCommand(String text, int reason) {
        Twins.leaves("run() of " + text, CommandsTest::smallCellar, atOnce(text), -200, reason);
    }

    /** 100 litres of 500 in the tank 0; the tank 1 has a size of 10; orders with too many litres and too strong. */
    private static BreweryCellar smallCellar() {
        BreweryCellar x = new BreweryCellar();
        x.brew(0, 100, 500);
        x.size(1, 10);
        x.order(0, 200, 0, 2000);
        x.order(0, 20, 600, 2000);
        return x;
    }

    /** "The reason of a refused command is kept": the same reasons as those of the calls, in the same order. */
    private static void reasonOfRefusedCommand() {
        refusedCommand("t6>0:0", 1);
        refusedCommand("t0>9:5", 1);
        refusedCommand("t0>0:5", 1);
        refusedCommand("t0>1:0", 8);
        refusedCommand("t2>1:0", 8);
        refusedCommand("t2>1:5", 2);
        refusedCommand("t0>1:101", 3);
        refusedCommand("t0>1:11", 4);
        refusedCommand("l7:0/0", 1);
        refusedCommand("l0:0/1", 8);
        refusedCommand("l0:5/0", 8);
        refusedCommand("l0:5/4", 8);
        refusedCommand("l1:5/0", 8);
        refusedCommand("l1:101/1", 2);
        refusedCommand("l0:101/1", 3);
        refusedCommand("f8#9", 1);
        refusedCommand("f1#2", 5);
        refusedCommand("f0#10", 5);
        refusedCommand("f0#0100", 5);
        refusedCommand("f0#1000", 5);
        refusedCommand("f0#1001", 5);
        refusedCommand("f0#9999", 5);
        refusedCommand("f1#0", 2);
        refusedCommand("f0#0", 3);
        refusedCommand("f0#1", 6);
        refusedCommand("c6", 1);
        refusedCommand("c0", 7);
        refusedCommand("d0", 8);
        refusedCommand("d0000", 8);
        refusedCommand("d1000", 8);
        Check.due("t0>1:10", Scenes.run(smallCellar(), "t0>1:10"), 1);
        Check.due("l0:100/1", Scenes.run(smallCellar(), "l0:100/1"), 1);
        Check.due("d999", Scenes.run(smallCellar(), "d999"), 1);
    }

    /** "run empties the tape always". */
    private static void tapeIsAlwaysEmptied() {
        for (String text : new String[] {"d1", "d1;", "x", "d0", "d1;c0", ""}) {
            BreweryCellar x = new BreweryCellar();
            Scenes.run(x, text);
            Check.due("count(4) after " + text, x.count(4), 0);
            Check.due("run() after " + text, x.run(), -100);
            int day = x.count(0);
            Check.due("run() after " + text, Scenes.run(x, "d2"), 1);
            Check.due("count(0) after " + text, x.count(0), day + 2);
        }
    }

    /** A run is one change, whatever it does; what was undone does not come back to the tape. */
    private static void runIsOneChange() {
        BreweryCellar x = Scenes.brewed(100, 500);
        Check.due("count(5)", x.count(5), 2);
        Check.due("run()", Scenes.run(x, "t0>1:50;t1>2:25;d3"), 3);
        Check.due("count(5)", x.count(5), 3);
        Scenes.put(x, "d7");
        Check.due("back()", x.back(), 2);
        Check.due("ofTank(0, 1)", x.ofTank(0, 1), 100);
        Check.due("entry(-1, 0)", x.entry(-1, 0), 1);
        Check.due("count(0)", x.count(0), 0);
        Check.due("count(4)", x.count(4), 2);
        Check.due("run()", x.run(), 1);
        Check.due("count(0)", x.count(0), 7);
    }

    /** "Returns the reason of the latest refusal"; "-5 if there was none." */
    private static void latestReasonIsTold() {
        BreweryCellar x = Scenes.brewed(100, 500);
        Check.due("reason() at first", x.reason(), -5);
        x.clean(6);
        Check.due("reason()", x.reason(), 1);
        x.lose(1, 5, 1);
        Check.due("reason()", x.reason(), 2);
        x.lose(0, 101, 1);
        Check.due("reason()", x.reason(), 3);
        x.size(0, 99);
        Check.due("reason()", x.reason(), 4);
        x.drop(0);
        Check.due("reason()", x.reason(), 5);
        x.order(0, 1, 0, 499);
        x.fill(0, 0);
        Check.due("reason()", x.reason(), 6);
        x.clean(0);
        Check.due("reason()", x.reason(), 7);
        x.pass(0);
        Check.due("reason()", x.reason(), 8);
        x.mix(0, 0, 1, 1);
        Check.due("reason()", x.reason(), 1);
        Scenes.run(x, "c0");
        Check.due("reason()", x.reason(), 7);
        x.brew(0, 5, 5);
        Check.due("reason()", x.reason(), 2);
        x.transfer(0, 1, 0);
        Check.due("reason()", x.reason(), 8);
        x.transfer(0, 1, 10);
        x.reason();
        Check.due("reason() behind what is done", x.reason(), 8);
    }

    /** What answers NONE, BAD or FULL, a wrong text, and back and undo "without a reason" leave the reason. */
    private static void errorsWithoutReasonLeaveIt() {
        BreweryCellar x = new BreweryCellar();
        x.brew(9, 1, 1);
        x.size(0, 0);
        x.setLoss(1000);
        x.rate(-1, 0, 0);
        x.order(0, 0, 0, 0);
        x.feed(0, 0, 0, 0, 0, 0);
        x.planned(-1);
        x.planned(0);
        x.holds(-1, 0);
        Check.due("back()", x.back(), -3);
        Check.due("undo()", x.undo(), -3);
        Check.due("run()", x.run(), -100);
        Check.due("reason()", x.reason(), -5);
        x.clean(0);
        x.image();
        x.clean(6);
        Check.due("pass(1)", x.pass(1), 0);
        Check.due("reason() after pass(1)", x.reason(), 1);
        Check.due("back()", x.back(), 0);
        Check.due("reason() after back()", x.reason(), 1);
        Check.due("back()", x.back(), -3);
        Check.due("reason() after back() without a change", x.reason(), 1);
        Check.due("undo()", x.undo(), 0);
        Check.due("reason() after undo()", x.reason(), 1);
        Check.due("run()", x.run(), -100);
        Check.due("reason() after a wrong text", x.reason(), 1);
    }
}
