/** Runs of mixed calls on the program and on the reference, each answer compared; each run ends with many questions. */
final class RandomRunsTest {
    private static final int RUNS = 3000;
    private static final int CALLS = 512;
    private static final int CALLS_AHEAD_OF_THE_QUESTIONS = 400;
    private static final int MOST_ANSWERS_PRINTED = 20;

    private long seed;
    private BreweryCellar program;
    private Reference reference;
    private StringBuilder calls;
    private int made;
    private int wrong = 0;
    private long compared = 0;

    public static void main(String[] args) {
        RandomRunsTest test = new RandomRunsTest();
        for (int run = 0; run < RUNS && test.wrong < MOST_ANSWERS_PRINTED; run++) {
            test.oneRun(run);
        }
        System.out.println(test.compared + " answers compared, " + test.wrong + " differ");
        if (test.wrong > 0) {
            System.exit(1);
        }
    }

    private void oneRun(int run) {
        seed = run * 7919L + 17;
        program = new BreweryCellar();
        reference = new Reference();
        calls = new StringBuilder();
        // Runs of one style stay with small or with great numbers, so that ties and limits both come up.
        boolean small = run % 3 == 0;
        made = 0;
        while (made < CALLS_AHEAD_OF_THE_QUESTIONS && wrong < MOST_ANSWERS_PRINTED) {
            if (pick(100) < 60) {
                change(small);
            } else {
                question(small);
            }
        }
        while (made < CALLS && wrong < MOST_ANSWERS_PRINTED) {
            anyQuestion();
        }
    }

    private int pick(int bound) {
        seed = seed * 6364136223846793005L + 1442695040888963407L;
        return (int) ((seed >>> 33) % bound);
    }

    private int farOff() {
        return pick(2) == 0 ? Integer.MAX_VALUE - pick(2) : Integer.MIN_VALUE + pick(2);
    }

    /** The number, or at times one that is far from all that is allowed. */
    private int mostly(int number) {
        return pick(100) == 0 ? farOff() : number;
    }

    private int tank() {
        return mostly(pick(40) == 0 ? pick(2) * 7 - 1 : pick(6));
    }

    private int amount(boolean small) {
        switch (pick(30)) {
            case 0: return 0;
            case 1: return 10000;
            case 2: return 9999;
            case 3: return -pick(5);
            case 4: return farOff();
            default: return small ? 1 + pick(12) : 1 + pick(900);
        }
    }

    private int strength(boolean small) {
        switch (pick(30)) {
            case 0: return -1;
            case 1: return 2001;
            case 2: return 2000;
            case 3: return 0;
            case 4: return farOff();
            default: return small ? pick(12) : pick(2001);
        }
    }

    private void compare(String call, long got, long want) {
        compared++;
        made++;
        calls.append(call).append(' ');
        if (got != want) {
            wrong++;
            System.out.println(call + " answered " + got + ", due is " + want);
            if (wrong == 1) {
                System.out.println("after: " + calls);
            }
        }
    }

    private void change(boolean small) {
        int a = tank();
        int b = tank();
        int n = amount(small);
        int s = strength(small);
        int k = pick(10);
        switch (pick(28)) {
            case 0: case 1: case 2: case 3:
                for (int i = 0; i < 6 && reference.ofTank(a, 2) != 0; i++) {
                    a = (a + 1) % 6;
                }
                compare("brew(" + a + "," + n + "," + s + ")", program.brew(a, n, s), reference.brew(a, n, s));
                break;
            case 4: case 5: case 6: case 7: case 8:
                compare("transfer(" + a + "," + b + "," + n + ")", program.transfer(a, b, n),
                        reference.transfer(a, b, n));
                break;
            case 9: case 10:
                k = mostly(pick(20) == 0 ? pick(7) - 2 : 1 + pick(3));
                compare("lose(" + a + "," + n + "," + k + ")", program.lose(a, n, k), reference.lose(a, n, k));
                break;
            case 11:
                k = mostly(pick(12) == 0 ? pick(2) * 102 - 1 : pick(101));
                compare("setLoss(" + k + ")", program.setLoss(k), reference.setLoss(k));
                break;
            case 12: {
                int day = mostly(pick(15) == 0 ? pick(2) * 10001 - 1 : pick(reference.count(0) + 5));
                int money = mostly(pick(15) == 0 ? pick(2) * 10001 - 1 : pick(10000));
                compare("rate(" + day + "," + s + "," + money + ")", program.rate(day, s, money),
                        reference.rate(day, s, money));
                break;
            }
            case 13: case 14: {
                int days = mostly(pick(15) == 0 ? pick(2) * 101 - 1 : pick(4));
                int least = pick(3) == 0 ? strength(small) : 0;
                int greatest = pick(3) == 0 ? strength(small) : 2000;
                compare("order(" + days + "," + n + "," + least + "," + greatest + ")",
                        program.order(days, n, least, greatest), reference.order(days, n, least, greatest));
                break;
            }
            case 15:
                k = mostly(pick(12) - 1);
                if (pick(2) == 0) {
                    compare("drop(" + k + ")", program.drop(k), reference.drop(k));
                }
                break;
            case 16: case 17:
                k = mostly(pick(12) - 1);
                compare("fill(" + a + "," + k + ")", program.fill(a, k), reference.fill(a, k));
                break;
            case 18:
                if (pick(3) == 0) {
                    compare("fillAll()", program.fillAll(), reference.fillAll());
                }
                break;
            case 19: case 20: case 21:
                compare("clean(" + a + ")", program.clean(a), reference.clean(a));
                break;
            case 22: case 23:
                k = mostly(pick(10) == 0 ? pick(1300) - 1 : pick(3));
                compare("pass(" + k + ")", program.pass(k), reference.pass(k));
                break;
            case 24:
                compare("correct()", program.correct(), reference.correct());
                break;
            case 25: case 26:
                text(small);
                break;
            default:
                changeOfTime(k);
        }
    }

    private void changeOfTime(int k) {
        if (k < 5) {
            compare("back()", program.back(), reference.back());
        } else if (k == 5) {
            compare("undo()", program.undo(), reference.undo());
        } else if (k < 8) {
            compare("image()", program.image(), reference.image());
        } else {
            int n = pick(2) == 0 ? 1 + pick(1000) : 1000 + pick(9001);
            int tank = tank();
            compare("size(" + tank + "," + n + ")", program.size(tank, n), reference.size(tank, n));
        }
    }

    private void text(boolean small) {
        StringBuilder text = new StringBuilder();
        int commands = 1 + pick(4);
        for (int i = 0; i < commands; i++) {
            text.append(i > 0 ? ";" : "").append(command(small));
        }
        if (pick(4) == 0) {
            spoil(text);
        }
        for (int i = 0; i < text.length(); i += 5) {
            int n = Math.min(5, text.length() - i);
            int[] bytes = new int[5];
            for (int j = 0; j < n; j++) {
                bytes[j] = text.charAt(i + j);
            }
            compare("feed(" + text.substring(i, i + n) + ")",
                    program.feed(n, bytes[0], bytes[1], bytes[2], bytes[3], bytes[4]),
                    reference.feed(n, bytes[0], bytes[1], bytes[2], bytes[3], bytes[4]));
        }
        if (pick(10) > 0) {
            compare("run()", program.run(), reference.run());
            compare("reason()", program.reason(), reference.reason());
        }
    }

    private String command(boolean small) {
        int tank = pick(20) == 0 ? pick(10) : pick(6);
        int other = pick(20) == 0 ? pick(10) : pick(6);
        int n = small ? pick(6) : pick(300);
        String number = pick(8) == 0 ? "0" + n : "" + n;
        switch (pick(5)) {
            case 0: return "t" + tank + ">" + other + ":" + number;
            case 1: return "l" + tank + ":" + number + "/" + (pick(15) == 0 ? pick(10) : 1 + pick(3));
            case 2: return "f" + tank + "#" + (pick(15) == 0 ? pick(200) : pick(10));
            case 3: return "c" + tank;
            default: return "d" + pick(4);
        }
    }

    private void spoil(StringBuilder text) {
        String signs = ";:/>#tlfcd0123456789 x";
        int at = pick(text.length());
        switch (pick(3)) {
            case 0:
                text.setLength(at);
                break;
            case 1:
                text.setCharAt(at, signs.charAt(pick(signs.length())));
                break;
            default:
                text.insert(at, signs.charAt(pick(signs.length())));
        }
    }

    private void question(boolean small) {
        int a = tank();
        int b = tank();
        int what = mostly(pick(16) - 1);
        switch (pick(13)) {
            case 0: compare("reason()", program.reason(), reference.reason()); break;
            case 1: compare("ofTank(" + a + "," + what + ")", program.ofTank(a, what), reference.ofTank(a, what));
                break;
            case 2: compare("litres(" + a + "," + what + ")", program.litres(a, what), reference.litres(a, what));
                break;
            case 3: compare("ofBatch(" + b + "," + what + ")", program.ofBatch(b, what), reference.ofBatch(b, what));
                break;
            case 4: case 5: {
                int n = small ? 1 + pick(20) : pick(4) == 0 ? amount(false) : 1 + pick(150);
                int s = strength(small);
                compare("mix(" + a + "," + b + "," + n + "," + s + ")", program.mix(a, b, n, s),
                        reference.mix(a, b, n, s));
                break;
            }
            case 6: compare("ofOrder(" + b + "," + what + ")", program.ofOrder(b, what), reference.ofOrder(b, what));
                break;
            case 7: compare("planned(" + what + ")", program.planned(what), reference.planned(what)); break;
            case 8: {
                int day = pick(reference.count(0) + 8) - 1;
                int s = strength(small);
                compare("holds(" + day + "," + s + ")", program.holds(day, s), reference.holds(day, s));
                break;
            }
            case 9: compare("excise(" + what + ")", program.excise(what), reference.excise(what)); break;
            case 10: {
                int i = pick(90) - 2;
                compare("entry(" + i + "," + what + ")", program.entry(i, what), reference.entry(i, what));
                break;
            }
            case 11: compare("account(" + what + ")", program.account(what), reference.account(what)); break;
            default: compare("count(" + what + ")", program.count(what), reference.count(what));
        }
    }

    /** A question with a selector at an edge or anywhere. */
    private void anyQuestion() {
        int what = mostly(pick(20) - 2);
        int i = mostly(pick(19) - 1);
        String both = i + "," + what + ")";
        switch (pick(11)) {
            case 0: compare("ofTank(" + both, program.ofTank(i, what), reference.ofTank(i, what)); break;
            case 1: compare("litres(" + both, program.litres(i, what), reference.litres(i, what)); break;
            case 2: compare("ofBatch(" + both, program.ofBatch(i, what), reference.ofBatch(i, what)); break;
            case 3: compare("ofOrder(" + both, program.ofOrder(i, what), reference.ofOrder(i, what)); break;
            case 4: compare("planned(" + what + ")", program.planned(what), reference.planned(what)); break;
            case 5: compare("excise(" + what + ")", program.excise(what), reference.excise(what)); break;
            case 6: compare("account(" + what + ")", program.account(what), reference.account(what)); break;
            case 7: compare("count(" + what + ")", program.count(what), reference.count(what)); break;
            case 8: case 9: {
                int entry = mostly(pick(92) - 2);
                int part = mostly(pick(6) - 1);
                compare("entry(" + entry + "," + part + ")", program.entry(entry, part),
                        reference.entry(entry, part));
                break;
            }
            default: compare("reason()", program.reason(), reference.reason());
        }
    }
}
