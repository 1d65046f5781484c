import java.math.BigInteger;
import java.util.ArrayDeque;
import java.util.ArrayList;
import java.util.Comparator;
import java.util.Deque;
import java.util.List;
import java.util.SortedMap;
import java.util.TreeMap;
import java.util.regex.Matcher;
import java.util.regex.Pattern;

/**
 * The document once more, written for plainness alone and in another way than the program: what happened is kept in
 * lists, and the answers are reckoned from these.
 */
final class Reference {
    private static final int NONE = -1, BAD = -2, STATE = -3, FULL = -4, NOTHING = -5;
    private static final String COMMAND =
            "(?:t\\d>\\d:\\d{1,4}|l\\d:\\d{1,4}/\\d|f\\d#\\d{1,4}|c\\d|d\\d{1,4})";
    private static final Pattern TEXT = Pattern.compile(COMMAND + "(?:;" + COMMAND + ")*");
    private static final String[] ENDINGS = {
        "", "0", "d0", "0>0:0", ">0:0", "0:0", ":0", "0:0/0", ":0/0", "0/0", "/0", "0#0", "#0"
    };

    private record Batch(int strength, int litres, int day) {
    }

    private record Loss(SortedMap<Integer, Integer> litres, int reason) {
    }

    private record Filling(int order, SortedMap<Integer, Integer> litres, int day, long paid) {
    }

    private record Rate(int number, int day, int strength, int amount) {
    }

    private record Order(int number, int due, int litres, int least, int greatest) {
    }

    private record Entry(int day, int kind, int tank, int litres) {
    }

    private record Planned(int order, int tank) {
    }

    private static final class World {
        int day = 0;
        int loss = 5;
        int[] sizes = {1000, 1000, 1000, 1000, 1000, 1000};
        boolean[] dirty = new boolean[6];
        int[] cleanDays = {-1, -1, -1, -1, -1, -1};
        List<SortedMap<Integer, Integer>> tanks = new ArrayList<>();
        List<Batch> batches = new ArrayList<>();
        List<Loss> losses = new ArrayList<>();
        List<Filling> fillings = new ArrayList<>();
        List<Rate> rates = new ArrayList<>();
        List<Order> orders = new ArrayList<>();
        List<Integer> dropped = new ArrayList<>();
        List<Entry> journal = new ArrayList<>();
        long corrected = 0;

        World copy() {
            World copy = new World();
            copy.day = day;
            copy.loss = loss;
            copy.sizes = sizes.clone();
            copy.dirty = dirty.clone();
            copy.cleanDays = cleanDays.clone();
            for (SortedMap<Integer, Integer> tank : tanks) {
                copy.tanks.add(new TreeMap<>(tank));
            }
            copy.batches.addAll(batches);
            copy.losses.addAll(losses);
            copy.fillings.addAll(fillings);
            copy.rates.addAll(rates);
            copy.orders.addAll(orders);
            copy.dropped.addAll(dropped);
            copy.journal.addAll(journal);
            copy.corrected = corrected;
            return copy;
        }
    }

    private World world = new World();
    private World snapshot = null;
    private final Deque<World> before = new ArrayDeque<>();
    private final StringBuilder tape = new StringBuilder();
    private int latest = NOTHING;

    Reference() {
        for (int i = 0; i < 6; i++) {
            world.tanks.add(new TreeMap<>());
        }
    }

    // what is reckoned from litres of batches

    private static int total(SortedMap<Integer, Integer> litres) {
        return litres.values().stream().mapToInt(Integer::intValue).sum();
    }

    private long alcohol(SortedMap<Integer, Integer> litres) {
        return litres.entrySet().stream()
                .mapToLong(e -> (long) e.getValue() * world.batches.get(e.getKey()).strength()).sum();
    }

    private int strength(SortedMap<Integer, Integer> litres) {
        return total(litres) == 0 ? NOTHING : (int) (alcohol(litres) / total(litres));
    }

    private static SortedMap<Integer, Integer> proportion(SortedMap<Integer, Integer> whole, int amount) {
        SortedMap<Integer, Integer> taken = new TreeMap<>();
        BigInteger all = BigInteger.valueOf(total(whole));
        List<BigInteger[]> remainders = new ArrayList<>();
        for (var e : whole.entrySet()) {
            BigInteger[] parts = BigInteger.valueOf(e.getValue()).multiply(BigInteger.valueOf(amount))
                    .divideAndRemainder(all);
            taken.put(e.getKey(), parts[0].intValue());
            remainders.add(new BigInteger[] {parts[1], BigInteger.valueOf(e.getKey())});
        }
        remainders.sort(Comparator.<BigInteger[], BigInteger>comparing(r -> r[0]).reversed()
                .thenComparing(r -> r[1]));
        int missing = amount - total(taken);
        for (int i = 0; i < missing; i++) {
            taken.merge(remainders.get(i)[1].intValue(), 1, Integer::sum);
        }
        taken.values().removeIf(v -> v == 0);
        return taken;
    }

    private static void subtract(SortedMap<Integer, Integer> from, SortedMap<Integer, Integer> litres) {
        litres.forEach((batch, n) -> from.merge(batch, -n, Integer::sum));
        from.values().removeIf(v -> v == 0);
    }

    private static void addTo(SortedMap<Integer, Integer> to, SortedMap<Integer, Integer> litres) {
        litres.forEach((batch, n) -> to.merge(batch, n, Integer::sum));
    }

    // tanks

    private static boolean noTank(int tank) {
        return tank < 0 || tank > 5;
    }

    private int state(int tank) {
        if (!world.tanks.get(tank).isEmpty()) {
            return 1;
        }
        if (world.cleanDays[tank] >= 0) {
            return 3;
        }
        return world.dirty[tank] ? 2 : 0;
    }

    private SortedMap<Integer, Integer> takeOut(int tank, int litres) {
        SortedMap<Integer, Integer> taken = proportion(world.tanks.get(tank), litres);
        subtract(world.tanks.get(tank), taken);
        if (world.tanks.get(tank).isEmpty()) {
            world.dirty[tank] = true;
        }
        return taken;
    }

    private void note(int kind, int tank, int litres) {
        world.journal.add(new Entry(world.day, kind, tank, litres));
    }

    // orders

    private boolean filled(int order) {
        return world.fillings.stream().anyMatch(f -> f.order() == order);
    }

    private boolean open(int order) {
        return order >= 0 && order < world.orders.size() && !filled(order) && !world.dropped.contains(order);
    }

    private List<Order> openOrders() {
        return new ArrayList<>(world.orders.stream().filter(o -> open(o.number())).toList());
    }

    private List<Planned> plan() {
        List<Order> queue = openOrders();
        queue.sort(Comparator.comparingInt(Order::due)
                .thenComparing(Comparator.comparingInt(Order::litres).reversed())
                .thenComparingInt(Order::number));
        World real = world;
        world = world.copy();
        List<Planned> plan = new ArrayList<>();
        for (Order order : queue) {
            int best = -1;
            for (int t = 0; t < 6; t++) {
                if (fillReason(t, order.number()) == 0
                        && (best < 0 || total(world.tanks.get(t)) < total(world.tanks.get(best)))) {
                    best = t;
                }
            }
            if (best >= 0) {
                takeOut(best, order.litres());
                plan.add(new Planned(order.number(), best));
            }
        }
        world = real;
        return plan;
    }

    private int fillReason(int tank, int order) {
        if (noTank(tank)) {
            return 1;
        }
        if (!open(order)) {
            return 5;
        }
        Order wanted = world.orders.get(order);
        SortedMap<Integer, Integer> content = world.tanks.get(tank);
        if (content.isEmpty()) {
            return 2;
        }
        if (total(content) < wanted.litres()) {
            return 3;
        }
        return strength(content) < wanted.least() || strength(content) > wanted.greatest() ? 6 : 0;
    }

    private long duty(SortedMap<Integer, Integer> litres, int day) {
        int rate = holds(day, strength(litres));
        if (rate < 0) {
            return 0;
        }
        BigInteger product = BigInteger.valueOf(alcohol(litres))
                .multiply(BigInteger.valueOf(world.rates.get(rate).amount()));
        return product.add(BigInteger.valueOf(9999)).divide(BigInteger.valueOf(10000)).longValueExact();
    }

    // the work behind calls and commands: a number from 0, or a reason negated

    private int transferring(int from, int to, int litres) {
        if (noTank(from) || noTank(to) || from == to) {
            return -1;
        }
        if (litres < 1 || litres > 9999) {
            return -8;
        }
        if (state(from) != 1 || state(to) > 1) {
            return -2;
        }
        if (total(world.tanks.get(from)) < litres) {
            return -3;
        }
        int lost = litres * world.loss / 1000;
        if (total(world.tanks.get(to)) + litres - lost > world.sizes[to]) {
            return -4;
        }
        SortedMap<Integer, Integer> taken = takeOut(from, litres);
        note(1, from, litres);
        if (lost > 0) {
            SortedMap<Integer, Integer> gone = proportion(taken, lost);
            subtract(taken, gone);
            world.losses.add(new Loss(gone, 0));
            note(3, from, lost);
        }
        addTo(world.tanks.get(to), taken);
        note(2, to, litres - lost);
        return litres - lost;
    }

    private int losing(int tank, int litres, int reason) {
        if (noTank(tank)) {
            return -1;
        }
        if (litres < 1 || litres > 9999 || reason < 1 || reason > 3) {
            return -8;
        }
        if (state(tank) != 1) {
            return -2;
        }
        if (total(world.tanks.get(tank)) < litres) {
            return -3;
        }
        world.losses.add(new Loss(takeOut(tank, litres), reason));
        note(3, tank, litres);
        return total(world.tanks.get(tank));
    }

    private int filling(int tank, int order) {
        int reason = fillReason(tank, order);
        if (reason > 0) {
            return -reason;
        }
        int litres = world.orders.get(order).litres();
        SortedMap<Integer, Integer> taken = takeOut(tank, litres);
        long duty = duty(taken, world.day);
        world.fillings.add(new Filling(order, taken, world.day, duty));
        note(4, tank, litres);
        return (int) duty;
    }

    private int cleaning(int tank) {
        if (noTank(tank)) {
            return -1;
        }
        if (state(tank) != 2) {
            return -7;
        }
        world.cleanDays[tank] = world.day + 2;
        return world.day + 2;
    }

    private int passing(int days) {
        if (days < 1 || days > 999 || world.day + days > 9999) {
            return -8;
        }
        world.day += days;
        int cleaned = 0;
        for (int t = 0; t < 6; t++) {
            if (world.cleanDays[t] >= 0 && world.cleanDays[t] <= world.day) {
                world.cleanDays[t] = -1;
                world.dirty[t] = false;
                cleaned++;
            }
        }
        return cleaned;
    }

    // how calls end

    private int refuse(int reason) {
        latest = reason;
        return STATE;
    }

    private int changed(World was, int answer) {
        before.addLast(was);
        if (before.size() > 6) {
            before.removeFirst();
        }
        return answer;
    }

    private int ended(World was, int answer) {
        return answer < 0 ? refuse(-answer) : changed(was, answer);
    }

    // the public face

    int size(int tank, int litres) {
        if (noTank(tank)) {
            return NONE;
        }
        if (litres < 1 || litres > 9999) {
            return BAD;
        }
        if (total(world.tanks.get(tank)) > litres) {
            return refuse(4);
        }
        World was = world.copy();
        int old = world.sizes[tank];
        world.sizes[tank] = litres;
        return changed(was, old);
    }

    int brew(int tank, int litres, int strength) {
        if (noTank(tank)) {
            return NONE;
        }
        if (litres < 1 || litres > 9999 || strength < 0 || strength > 2000) {
            return BAD;
        }
        if (world.batches.size() == 16) {
            return FULL;
        }
        if (state(tank) != 0) {
            return refuse(2);
        }
        if (litres > world.sizes[tank]) {
            return refuse(4);
        }
        World was = world.copy();
        world.batches.add(new Batch(strength, litres, world.day));
        world.tanks.get(tank).put(world.batches.size() - 1, litres);
        note(0, tank, litres);
        return changed(was, world.batches.size() - 1);
    }

    int transfer(int from, int to, int litres) {
        World was = world.copy();
        return ended(was, transferring(from, to, litres));
    }

    int lose(int tank, int litres, int reason) {
        World was = world.copy();
        return ended(was, losing(tank, litres, reason));
    }

    int setLoss(int loss) {
        if (loss < 0 || loss > 100) {
            return BAD;
        }
        World was = world.copy();
        world.loss = loss;
        return changed(was, was.loss);
    }

    int rate(int day, int strength, int amount) {
        if (day < 0 || day > 9999 || strength < 0 || strength > 2000 || amount < 0 || amount > 9999) {
            return BAD;
        }
        if (world.rates.size() == 10) {
            return FULL;
        }
        World was = world.copy();
        world.rates.add(new Rate(world.rates.size(), day, strength, amount));
        return changed(was, world.rates.size() - 1);
    }

    int order(int days, int litres, int least, int greatest) {
        if (days < 0 || days > 99 || litres < 1 || litres > 9999 || least < 0 || least > 2000 || greatest < 0
                || greatest > 2000 || least > greatest) {
            return BAD;
        }
        if (world.orders.size() == 10) {
            return FULL;
        }
        World was = world.copy();
        world.orders.add(new Order(world.orders.size(), world.day + days, litres, least, greatest));
        return changed(was, world.orders.size() - 1);
    }

    int drop(int order) {
        if (!open(order)) {
            return refuse(5);
        }
        World was = world.copy();
        world.dropped.add(order);
        return changed(was, openOrders().size());
    }

    int fill(int tank, int order) {
        World was = world.copy();
        return ended(was, filling(tank, order));
    }

    int fillAll() {
        World was = world.copy();
        List<Planned> plan = plan();
        for (Planned planned : plan) {
            filling(planned.tank(), planned.order());
        }
        return changed(was, plan.size());
    }

    int clean(int tank) {
        World was = world.copy();
        return ended(was, cleaning(tank));
    }

    int pass(int days) {
        World was = world.copy();
        return ended(was, passing(days));
    }

    int feed(int n, int a, int b, int c, int d, int e) {
        int[] bytes = {a, b, c, d, e};
        for (int one : bytes) {
            if (one < 0 || one > 127) {
                return BAD;
            }
        }
        if (n < 1 || n > 5) {
            return BAD;
        }
        if (tape.length() + n > 60) {
            return FULL;
        }
        for (int i = 0; i < n; i++) {
            tape.append((char) bytes[i]);
        }
        return tape.length();
    }

    private static boolean canContinue(String start) {
        for (String ending : ENDINGS) {
            if (TEXT.matcher(start + ending).matches()) {
                return true;
            }
        }
        return false;
    }

    int run() {
        String text = tape.toString();
        tape.setLength(0);
        if (!TEXT.matcher(text).matches()) {
            for (int i = 0; i < text.length(); i++) {
                if (!canContinue(text.substring(0, i + 1))) {
                    return -100 - i;
                }
            }
            return -100 - text.length();
        }
        World was = world.copy();
        Matcher commands = Pattern.compile(COMMAND).matcher(text);
        int done = 0;
        while (commands.find()) {
            int answer = command(commands.group());
            if (answer < 0) {
                world = was;
                latest = -answer;
                return -200 - done;
            }
            done++;
        }
        return changed(was, done);
    }

    private int command(String text) {
        String[] words = text.substring(1).split("[>:/#]");
        int[] numbers = new int[words.length];
        for (int i = 0; i < words.length; i++) {
            numbers[i] = Integer.parseInt(words[i]);
        }
        return switch (text.charAt(0)) {
            case 't' -> transferring(numbers[0], numbers[1], numbers[2]);
            case 'l' -> losing(numbers[0], numbers[1], numbers[2]);
            case 'f' -> filling(numbers[0], numbers[1]);
            case 'c' -> cleaning(numbers[0]);
            default -> passing(numbers[0]);
        };
    }

    int reason() {
        return latest;
    }

    int ofTank(int tank, int what) {
        if (noTank(tank)) {
            return NONE;
        }
        SortedMap<Integer, Integer> content = world.tanks.get(tank);
        return switch (what) {
            case 0 -> world.sizes[tank];
            case 1 -> total(content);
            case 2 -> state(tank);
            case 3 -> strength(content);
            case 4 -> state(tank) == 3 ? world.cleanDays[tank] : NOTHING;
            case 5 -> content.size();
            case 6 -> world.sizes[tank] - total(content);
            default -> NONE;
        };
    }

    int litres(int tank, int batch) {
        if (noTank(tank) || batch < 0 || batch >= world.batches.size()) {
            return NONE;
        }
        return world.tanks.get(tank).getOrDefault(batch, 0);
    }

    int ofBatch(int batch, int what) {
        if (batch < 0 || batch >= world.batches.size()) {
            return NONE;
        }
        Batch asked = world.batches.get(batch);
        int inTanks = 0;
        int set = 0;
        for (int t = 0; t < 6; t++) {
            int litres = world.tanks.get(t).getOrDefault(batch, 0);
            inTanks += litres;
            set += litres > 0 ? (int) Math.pow(2, t) : 0;
        }
        return switch (what) {
            case 0 -> asked.strength();
            case 1 -> asked.litres();
            case 2 -> inTanks;
            case 3 -> world.fillings.stream().mapToInt(f -> f.litres().getOrDefault(batch, 0)).sum();
            case 4 -> world.losses.stream().mapToInt(l -> l.litres().getOrDefault(batch, 0)).sum();
            case 5 -> asked.day();
            case 6 -> set;
            default -> NONE;
        };
    }

    int mix(int one, int other, int litres, int strength) {
        if (noTank(one) || noTank(other) || one == other) {
            return refuse(1);
        }
        if (litres < 1 || litres > 9999 || strength < 0 || strength > 2000) {
            return refuse(8);
        }
        if (state(one) != 1 || state(other) != 1) {
            return refuse(2);
        }
        SortedMap<Integer, Integer> first = world.tanks.get(one);
        SortedMap<Integer, Integer> second = world.tanks.get(other);
        int best = NOTHING;
        long nearest = Long.MAX_VALUE;
        for (int x = 0; x <= litres; x++) {
            if (x <= total(first) && litres - x <= total(second)) {
                long alcohol = alcohol(proportion(first, x)) + alcohol(proportion(second, litres - x));
                long distance = Math.abs(alcohol - (long) strength * litres);
                if (distance < nearest) {
                    nearest = distance;
                    best = x;
                }
            }
        }
        return best;
    }

    int ofOrder(int order, int what) {
        if (order < 0 || order >= world.orders.size()) {
            return NONE;
        }
        Order asked = world.orders.get(order);
        return switch (what) {
            case 0 -> asked.due();
            case 1 -> asked.litres();
            case 2 -> asked.least();
            case 3 -> asked.greatest();
            case 4 -> open(order) ? 0 : filled(order) ? 1 : 2;
            case 5 -> plan().stream().filter(p -> p.order() == order).mapToInt(Planned::tank).findFirst()
                    .orElse(NOTHING);
            case 6 -> world.fillings.stream().filter(f -> f.order() == order).mapToInt(f -> (int) f.paid())
                    .findFirst().orElse(NOTHING);
            default -> NONE;
        };
    }

    int planned(int i) {
        if (i < 0) {
            return NONE;
        }
        List<Planned> plan = plan();
        return i < plan.size() ? plan.get(i).order() : NOTHING;
    }

    int holds(int day, int strength) {
        if (day < 0 || day > 9999 || strength < 0 || strength > 2000) {
            return BAD;
        }
        return world.rates.stream().filter(r -> r.day() <= day && r.strength() <= strength)
                .max(Comparator.comparingInt(Rate::strength).thenComparingInt(Rate::day)
                        .thenComparingInt(Rate::number))
                .map(Rate::number).orElse(NOTHING);
    }

    long excise(int what) {
        long paid = world.fillings.stream().mapToLong(Filling::paid).sum();
        long now = world.fillings.stream().mapToLong(f -> duty(f.litres(), f.day())).sum();
        return switch (what) {
            case 0 -> paid;
            case 1 -> now;
            case 2 -> world.corrected;
            case 3 -> now - paid - world.corrected;
            default -> Long.MIN_VALUE;
        };
    }

    int correct() {
        World was = world.copy();
        long due = excise(3);
        world.corrected += due;
        return changed(was, due > 0 ? 1 : due == 0 ? 0 : 2);
    }

    int entry(int i, int what) {
        if (i == -1) {
            return world.journal.size();
        }
        if (i < 0 || i >= Math.min(80, world.journal.size())) {
            return NONE;
        }
        Entry entry = world.journal.get(i);
        return switch (what) {
            case 0 -> entry.day();
            case 1 -> entry.kind();
            case 2 -> entry.tank();
            case 3 -> entry.litres();
            default -> NONE;
        };
    }

    long account(int what) {
        return switch (what) {
            case 0 -> world.batches.stream().mapToLong(Batch::litres).sum();
            case 1 -> world.tanks.stream().mapToLong(Reference::total).sum();
            case 2 -> world.fillings.stream().mapToLong(f -> total(f.litres())).sum();
            case 3, 4, 5, 6 -> world.losses.stream().filter(l -> l.reason() == what - 3)
                    .mapToLong(l -> total(l.litres())).sum();
            case 7 -> world.batches.stream().mapToLong(b -> (long) b.litres() * b.strength()).sum();
            case 8 -> world.tanks.stream().mapToLong(this::alcohol).sum();
            case 9 -> world.fillings.stream().mapToLong(f -> alcohol(f.litres())).sum();
            case 10 -> world.losses.stream().mapToLong(l -> alcohol(l.litres())).sum();
            case 11 -> openOrders().size();
            case 12 -> openOrders().stream().mapToLong(Order::litres).sum();
            default -> Long.MIN_VALUE;
        };
    }

    int back() {
        if (before.isEmpty()) {
            return STATE;
        }
        world = before.removeLast();
        return before.size();
    }

    int image() {
        snapshot = world.copy();
        return world.day;
    }

    int undo() {
        if (snapshot == null) {
            return STATE;
        }
        world = snapshot.copy();
        before.clear();
        return world.day;
    }

    int count(int what) {
        if (what >= 10 && what <= 13) {
            int number = 0;
            for (int t = 0; t < 6; t++) {
                number += state(t) == what - 10 ? 1 : 0;
            }
            return number;
        }
        return switch (what) {
            case 0 -> world.day;
            case 1 -> world.batches.size();
            case 2 -> world.orders.size();
            case 3 -> world.rates.size();
            case 4 -> tape.length();
            case 5 -> before.size();
            case 6 -> world.loss;
            default -> NONE;
        };
    }
}
