/**
 * A cellar of a brewery: tanks with states and cleaning, batches that are blended in proportion, losses with
 * reasons, excise by strength and date that is reckoned again, orders and a plan of fillings, mixtures that come
 * nearest to a strength, commands as texts, reasons, a journal, accounts that add up, changes that are undone, and
 * a snapshot. The class is not thread-safe.
 */
public final class BreweryCellar {
    public static final int NONE = -1, BAD = -2, STATE = -3, FULL = -4;

    private static final int NOTHING = -5;
    private static final int TEXT_WRONG = -100;
    private static final int COMMAND_REFUSED = -200;

    private static final int TANKS = 6;
    private static final int BATCHES = 16;
    private static final int RATES = 10;
    private static final int ORDERS = 10;
    private static final int LOSS_REASONS = 4;
    private static final int ENTRIES = 80;
    private static final int ENTRY_PARTS = 4;
    private static final int CHANGES = 6;
    private static final int TAPE_BYTES = 60;
    private static final int TAPE_COMMANDS = 20;

    private static final int FIRST_SIZE = 1000;
    private static final int FIRST_LOSS = 5;
    private static final int MOST_LOSS = 100;
    private static final int MOST_LITRES = 9999;
    private static final int MOST_STRENGTH = 2000;
    private static final int MOST_AMOUNT = 9999;
    private static final int LAST_DAY = 9999;
    private static final int MOST_DAYS_TO_PASS = 999;
    private static final int MOST_DAYS_TO_DUE = 99;
    private static final int DAYS_OF_CLEANING = 2;
    private static final int MOST_DIGITS = 4;
    private static final int MOST_BYTE = 127;
    private static final int MOST_BYTES_FED = 5;

    private static final int CLEAN = 0;
    private static final int IN_USE = 1;
    private static final int DIRTY = 2;
    private static final int BEING_CLEANED = 3;

    private static final int NO_SUCH_TANK = 1;
    private static final int TANK_NOT_FIT = 2;
    private static final int TOO_FEW_LITRES = 3;
    private static final int TOO_LITTLE_ROOM = 4;
    private static final int NO_OPEN_ORDER = 5;
    private static final int STRENGTH_NOT_WANTED = 6;
    private static final int TANK_NOT_DIRTY = 7;
    private static final int OUT_OF_RANGE = 8;

    private static final int BREWED = 0;
    private static final int MOVED_OUT = 1;
    private static final int MOVED_IN = 2;
    private static final int LOST = 3;
    private static final int DELIVERED = 4;

    private static final int ORDER_OPEN = 0;
    private static final int ORDER_FILLED = 1;
    private static final int ORDER_DROPPED = 2;

    private final State state = new State();
    // One place more than the changes that can be undone: a call puts the state by before it is known to succeed.
    private final State[] past = new State[CHANGES + 1];
    private int changes = 0;
    private final State snapshot = new State();
    private boolean snapshotTaken = false;
    private final Tape tape = new Tape();
    private final Plan plan = new Plan();
    private final Mixer mixer = new Mixer();
    private final Portion taken = new Portion();
    private final Portion wasted = new Portion();
    private int latestReason = NOTHING;

    public BreweryCellar() {
        for (int i = 0; i <= CHANGES; i++) {
            past[i] = new State();
        }
    }

    public int size(int tank, int litres) {
        Tank sized = state.tankAt(tank);
        if (sized == null) {
            return NONE;
        }
        if (outside(litres, 1, MOST_LITRES)) {
            return BAD;
        }
        if (sized.content.total() > litres) {
            return refuse(TOO_LITTLE_ROOM);
        }
        putBy();
        int before = sized.capacity;
        sized.capacity = litres;
        return changed(before);
    }

    public int brew(int tank, int litres, int strength) {
        Tank brewed = state.tankAt(tank);
        if (brewed == null) {
            return NONE;
        }
        if (outside(litres, 1, MOST_LITRES) || outside(strength, 0, MOST_STRENGTH)) {
            return BAD;
        }
        if (state.batchCount >= BATCHES) {
            return FULL;
        }
        if (brewed.phase != CLEAN) {
            return refuse(TANK_NOT_FIT);
        }
        if (litres > brewed.room()) {
            return refuse(TOO_LITTLE_ROOM);
        }
        putBy();
        int batch = state.addBatch(litres, strength);
        brewed.content.parts[batch] = litres;
        brewed.phase = IN_USE;
        state.note(BREWED, tank, litres);
        return changed(batch);
    }

    public int transfer(int from, int to, int litres) {
        putBy();
        return settle(pour(from, to, litres));
    }

    public int lose(int tank, int litres, int reason) {
        putBy();
        return settle(spill(tank, litres, reason));
    }

    public int setLoss(int loss) {
        if (outside(loss, 0, MOST_LOSS)) {
            return BAD;
        }
        putBy();
        int before = state.transferLoss;
        state.transferLoss = loss;
        return changed(before);
    }

    public int rate(int day, int strength, int amount) {
        if (outside(day, 0, LAST_DAY) || outside(strength, 0, MOST_STRENGTH) || outside(amount, 0, MOST_AMOUNT)) {
            return BAD;
        }
        if (state.rateCount >= RATES) {
            return FULL;
        }
        putBy();
        Rate told = state.rates[state.rateCount];
        told.day = day;
        told.strength = strength;
        told.amount = amount;
        state.rateCount++;
        return changed(state.rateCount - 1);
    }

    public int order(int days, int litres, int least, int greatest) {
        if (outside(days, 0, MOST_DAYS_TO_DUE) || outside(litres, 1, MOST_LITRES)
                || outside(least, 0, MOST_STRENGTH) || outside(greatest, least, MOST_STRENGTH)) {
            return BAD;
        }
        if (state.orderCount >= ORDERS) {
            return FULL;
        }
        putBy();
        Order made = state.orders[state.orderCount];
        made.due = state.day + days;
        made.litres = litres;
        made.least = least;
        made.greatest = greatest;
        made.status = ORDER_OPEN;
        state.orderCount++;
        return changed(state.orderCount - 1);
    }

    public int drop(int order) {
        Order dropped = state.orderAt(order);
        if (dropped == null || dropped.status != ORDER_OPEN) {
            return refuse(NO_OPEN_ORDER);
        }
        putBy();
        dropped.status = ORDER_DROPPED;
        return changed(state.openOrders());
    }

    public int fill(int tank, int order) {
        putBy();
        return settle(deliver(tank, order));
    }

    public int fillAll() {
        putBy();
        plan.reckon(state);
        for (int i = 0; i < plan.length; i++) {
            deliver(plan.tanks[i], plan.orders[i]);
        }
        return changed(plan.length);
    }

    public int clean(int tank) {
        putBy();
        return settle(scrub(tank));
    }

    public int pass(int days) {
        putBy();
        return settle(letPass(days));
    }

    public int feed(int n, int a, int b, int c, int d, int e) {
        if (outside(n, 1, MOST_BYTES_FED) || noByte(a) || noByte(b) || noByte(c) || noByte(d) || noByte(e)) {
            return BAD;
        }
        if (tape.length + n > TAPE_BYTES) {
            return FULL;
        }
        tape.append(a);
        if (n > 1) {
            tape.append(b);
        }
        if (n > 2) {
            tape.append(c);
        }
        if (n > 3) {
            tape.append(d);
        }
        if (n > 4) {
            tape.append(e);
        }
        return tape.length;
    }

    public int run() {
        boolean wrong = !tape.readCommands();
        tape.length = 0;
        if (wrong) {
            return TEXT_WRONG - tape.at;
        }
        putBy();
        for (int i = 0; i < tape.commandCount; i++) {
            int answer = perform(tape.commands[i]);
            if (answer < 0) {
                state.copyFrom(past[changes]);
                latestReason = -answer;
                return COMMAND_REFUSED - i;
            }
        }
        return changed(tape.commandCount);
    }

    public int reason() {
        return latestReason;
    }

    public int ofTank(int tank, int what) {
        Tank asked = state.tankAt(tank);
        if (asked == null) {
            return NONE;
        }
        switch (what) {
            case 0: return asked.capacity;
            case 1: return asked.content.total();
            case 2: return asked.phase;
            case 3: return asked.content.strength(state.strengths);
            case 4: return asked.phase == BEING_CLEANED ? asked.cleanDay : NOTHING;
            case 5: return asked.content.batches();
            case 6: return asked.room();
            default: return NONE;
        }
    }

    public int litres(int tank, int batch) {
        Tank asked = state.tankAt(tank);
        if (asked == null || outside(batch, 0, state.batchCount - 1)) {
            return NONE;
        }
        return asked.content.parts[batch];
    }

    public int ofBatch(int batch, int what) {
        if (outside(batch, 0, state.batchCount - 1)) {
            return NONE;
        }
        switch (what) {
            case 0: return state.strengths[batch];
            case 1: return state.brewed.parts[batch];
            case 2: return state.inTanks(batch);
            case 3: return state.filled.parts[batch];
            case 4: return state.lost.parts[batch];
            case 5: return state.brewDays[batch];
            case 6: return state.tanksWith(batch);
            default: return NONE;
        }
    }

    public int mix(int one, int other, int litres, int strength) {
        Tank first = state.tankAt(one);
        Tank second = state.tankAt(other);
        if (first == null || second == null || one == other) {
            return refuse(NO_SUCH_TANK);
        }
        if (outside(litres, 1, MOST_LITRES) || outside(strength, 0, MOST_STRENGTH)) {
            return refuse(OUT_OF_RANGE);
        }
        if (first.phase != IN_USE || second.phase != IN_USE) {
            return refuse(TANK_NOT_FIT);
        }
        return mixer.nearest(first.content, second.content, state.strengths, litres, strength);
    }

    public int ofOrder(int order, int what) {
        Order asked = state.orderAt(order);
        if (asked == null) {
            return NONE;
        }
        switch (what) {
            case 0: return asked.due;
            case 1: return asked.litres;
            case 2: return asked.least;
            case 3: return asked.greatest;
            case 4: return asked.status;
            case 5:
                plan.reckon(state);
                return plan.tankOf(order);
            case 6: return asked.status == ORDER_FILLED ? asked.duty : NOTHING;
            default: return NONE;
        }
    }

    public int planned(int i) {
        if (i < 0) {
            return NONE;
        }
        plan.reckon(state);
        return i < plan.length ? plan.orders[i] : NOTHING;
    }

    public int holds(int day, int strength) {
        if (outside(day, 0, LAST_DAY) || outside(strength, 0, MOST_STRENGTH)) {
            return BAD;
        }
        return state.rateFor(day, strength);
    }

    public long excise(int what) {
        switch (what) {
            case 0: return state.paid;
            case 1: return state.dutyNow();
            case 2: return state.corrected;
            case 3: return state.stillDue();
            default: return Long.MIN_VALUE;
        }
    }

    public int correct() {
        putBy();
        long due = state.stillDue();
        state.corrected += due;
        if (due == 0) {
            return changed(0);
        }
        return changed(due > 0 ? 1 : 2);
    }

    public int entry(int i, int what) {
        if (i == -1) {
            return state.journal.made;
        }
        return state.journal.part(i, what);
    }

    public long account(int what) {
        switch (what) {
            case 0: return state.brewed.total();
            case 1: return state.litresInTanks();
            case 2: return state.filled.total();
            case 3: case 4: case 5: case 6: return state.lostFor[what - 3];
            case 7: return state.brewed.alcohol(state.strengths);
            case 8: return state.alcoholInTanks();
            case 9: return state.filled.alcohol(state.strengths);
            case 10: return state.lost.alcohol(state.strengths);
            case 11: return state.openOrders();
            case 12: return state.openLitres();
            default: return Long.MIN_VALUE;
        }
    }

    public int back() {
        if (changes <= 0) {
            return STATE;
        }
        changes--;
        state.copyFrom(past[changes]);
        return changes;
    }

    public int image() {
        snapshot.copyFrom(state);
        snapshotTaken = true;
        return state.day;
    }

    public int undo() {
        if (!snapshotTaken) {
            return STATE;
        }
        state.copyFrom(snapshot);
        changes = 0;
        return state.day;
    }

    public int count(int what) {
        switch (what) {
            case 0: return state.day;
            case 1: return state.batchCount;
            case 2: return state.orderCount;
            case 3: return state.rateCount;
            case 4: return tape.length;
            case 5: return changes;
            case 6: return state.transferLoss;
            case 10: case 11: case 12: case 13: return state.tanksInPhase(what - 10);
            default: return NONE;
        }
    }

    private static boolean outside(int number, int least, int greatest) {
        return number < least || number > greatest;
    }

    private static boolean noByte(int number) {
        return outside(number, 0, MOST_BYTE);
    }

    private int refuse(int reason) {
        latestReason = reason;
        return STATE;
    }

    /** Puts the state by, in the place behind those of the changes that can be undone. */
    private void putBy() {
        past[changes].copyFrom(state);
    }

    /** Counts what was put by last as the state before a change, and answers what the change answers. */
    private int changed(int answer) {
        if (changes < CHANGES) {
            changes++;
            return answer;
        }
        State oldest = past[0];
        for (int i = 0; i < CHANGES; i++) {
            past[i] = past[i + 1];
        }
        past[CHANGES] = oldest;
        return answer;
    }

    /** Ends a call whose work answered either a number from 0 or a reason, negated. */
    private int settle(int answer) {
        return answer < 0 ? refuse(-answer) : changed(answer);
    }

    /** Does a command; answers a number from 0, or the reason of its refusal, negated. */
    private int perform(Command command) {
        switch (command.letter) {
            case 't': return pour(command.tank, command.other, command.number);
            case 'l': return spill(command.tank, command.number, command.other);
            case 'f': return deliver(command.tank, command.number);
            case 'c': return scrub(command.tank);
            default: return letPass(command.number);
        }
    }

    /** Transfers; answers the litres that come in, or the reason of the refusal, negated. */
    private int pour(int from, int to, int litres) {
        Tank giver = state.tankAt(from);
        Tank taker = state.tankAt(to);
        if (giver == null || taker == null || from == to) {
            return -NO_SUCH_TANK;
        }
        if (outside(litres, 1, MOST_LITRES)) {
            return -OUT_OF_RANGE;
        }
        if (giver.phase != IN_USE || (taker.phase != CLEAN && taker.phase != IN_USE)) {
            return -TANK_NOT_FIT;
        }
        if (giver.content.total() < litres) {
            return -TOO_FEW_LITRES;
        }
        int loss = litres * state.transferLoss / 1000;
        int coming = litres - loss;
        if (coming > taker.room()) {
            return -TOO_LITTLE_ROOM;
        }
        taken.take(giver.content, litres);
        giver.giveOut(taken.blend);
        state.note(MOVED_OUT, from, litres);
        if (loss > 0) {
            wasted.take(taken.blend, loss);
            taken.blend.remove(wasted.blend);
            state.writeOff(from, wasted.blend, loss, 0);
        }
        taker.takeIn(taken.blend);
        state.note(MOVED_IN, to, coming);
        return coming;
    }

    /** Loses litres; answers the litres that are left, or the reason of the refusal, negated. */
    private int spill(int tank, int litres, int reason) {
        Tank giver = state.tankAt(tank);
        if (giver == null) {
            return -NO_SUCH_TANK;
        }
        if (outside(litres, 1, MOST_LITRES) || outside(reason, 1, LOSS_REASONS - 1)) {
            return -OUT_OF_RANGE;
        }
        if (giver.phase != IN_USE) {
            return -TANK_NOT_FIT;
        }
        if (giver.content.total() < litres) {
            return -TOO_FEW_LITRES;
        }
        taken.take(giver.content, litres);
        giver.giveOut(taken.blend);
        state.writeOff(tank, taken.blend, litres, reason);
        return giver.content.total();
    }

    /** Fills an order; answers the duty that is paid, or the reason of the refusal, negated. */
    private int deliver(int tank, int order) {
        Tank giver = state.tankAt(tank);
        if (giver == null) {
            return -NO_SUCH_TANK;
        }
        Order wanted = state.orderAt(order);
        if (wanted == null || wanted.status != ORDER_OPEN) {
            return -NO_OPEN_ORDER;
        }
        if (giver.phase != IN_USE) {
            return -TANK_NOT_FIT;
        }
        if (giver.content.total() < wanted.litres) {
            return -TOO_FEW_LITRES;
        }
        if (!wanted.allows(giver.content.strength(state.strengths))) {
            return -STRENGTH_NOT_WANTED;
        }
        taken.take(giver.content, wanted.litres);
        giver.giveOut(taken.blend);
        state.filled.add(taken.blend);
        wanted.status = ORDER_FILLED;
        wanted.fillDay = state.day;
        wanted.fillStrength = taken.blend.strength(state.strengths);
        wanted.fillAlcohol = taken.blend.alcohol(state.strengths);
        wanted.duty = state.dutyOn(wanted);
        state.paid += wanted.duty;
        state.note(DELIVERED, tank, wanted.litres);
        return wanted.duty;
    }

    /** Starts to clean a tank; answers the day on which it is clean, or the reason of the refusal, negated. */
    private int scrub(int tank) {
        Tank scrubbed = state.tankAt(tank);
        if (scrubbed == null) {
            return -NO_SUCH_TANK;
        }
        if (scrubbed.phase != DIRTY) {
            return -TANK_NOT_DIRTY;
        }
        scrubbed.phase = BEING_CLEANED;
        scrubbed.cleanDay = state.day + DAYS_OF_CLEANING;
        return scrubbed.cleanDay;
    }

    /** Lets days pass; answers the tanks that become clean, or the reason of the refusal, negated. */
    private int letPass(int days) {
        if (outside(days, 1, MOST_DAYS_TO_PASS) || state.day + days > LAST_DAY) {
            return -OUT_OF_RANGE;
        }
        state.day += days;
        int cleaned = 0;
        for (int i = 0; i < TANKS; i++) {
            Tank tank = state.tanks[i];
            if (tank.phase == BEING_CLEANED && tank.cleanDay <= state.day) {
                tank.phase = CLEAN;
                cleaned++;
            }
        }
        return cleaned;
    }

    /** Litres of batches. */
    private static final class Blend {
        final int[] parts = new int[BATCHES];

        void copyFrom(Blend other) {
            System.arraycopy(other.parts, 0, parts, 0, BATCHES);
        }

        void add(Blend other) {
            for (int i = 0; i < BATCHES; i++) {
                parts[i] += other.parts[i];
            }
        }

        void remove(Blend other) {
            for (int i = 0; i < BATCHES; i++) {
                parts[i] -= other.parts[i];
            }
        }

        int total() {
            int sum = 0;
            for (int i = 0; i < BATCHES; i++) {
                sum += parts[i];
            }
            return sum;
        }

        int batches() {
            int number = 0;
            for (int i = 0; i < BATCHES; i++) {
                if (parts[i] > 0) {
                    number++;
                }
            }
            return number;
        }

        long alcohol(int[] strengths) {
            long sum = 0;
            for (int i = 0; i < BATCHES && i < strengths.length; i++) {
                sum += (long) parts[i] * strengths[i];
            }
            return sum;
        }

        /** The strength, rounded down; NOTHING without a litre. */
        int strength(int[] strengths) {
            int litres = total();
            return litres > 0 ? (int) (alcohol(strengths) / litres) : NOTHING;
        }

        long sumOfStrengths(int[] strengths) {
            long sum = 0;
            for (int i = 0; i < BATCHES && i < strengths.length; i++) {
                if (parts[i] > 0) {
                    sum += strengths[i];
                }
            }
            return sum;
        }
    }

    /** Litres that are taken out of a blend in proportion. */
    private static final class Portion {
        final Blend blend = new Blend();
        private final int[] remainders = new int[BATCHES];

        /** Makes this the given litres of the whole, which has at least so many and stays as it is. */
        void take(Blend whole, int litres) {
            int all = whole.total();
            int missing = litres;
            for (int i = 0; i < BATCHES; i++) {
                int product = whole.parts[i] * litres;
                blend.parts[i] = all > 0 ? product / all : 0;
                remainders[i] = all > 0 ? product % all : 0;
                missing -= blend.parts[i];
            }
            for (; missing > 0; missing--) {
                takeOneMore();
            }
        }

        private void takeOneMore() {
            int chosen = 0;
            for (int i = 1; i < BATCHES; i++) {
                if (remainders[i] > remainders[chosen]) {
                    chosen = i;
                }
            }
            if (remainders[chosen] > 0) {
                blend.parts[chosen]++;
                remainders[chosen] = 0;
            }
        }
    }

    /** A tank and what is in it. */
    private static final class Tank {
        int capacity = FIRST_SIZE;
        int phase = CLEAN;
        int cleanDay = 0;
        final Blend content = new Blend();

        void copyFrom(Tank other) {
            capacity = other.capacity;
            phase = other.phase;
            cleanDay = other.cleanDay;
            content.copyFrom(other.content);
        }

        int room() {
            return capacity - content.total();
        }

        void giveOut(Blend blend) {
            content.remove(blend);
            if (content.total() == 0) {
                phase = DIRTY;
            }
        }

        void takeIn(Blend blend) {
            content.add(blend);
            phase = IN_USE;
        }
    }

    /** A rate of the excise. */
    private static final class Rate {
        int day = 0;
        int strength = 0;
        int amount = 0;

        void copyFrom(Rate other) {
            day = other.day;
            strength = other.strength;
            amount = other.amount;
        }
    }

    /** An order, and its filling when it is filled. */
    private static final class Order {
        int due = 0;
        int litres = 0;
        int least = 0;
        int greatest = 0;
        int status = ORDER_OPEN;
        int duty = 0;
        int fillDay = 0;
        int fillStrength = 0;
        long fillAlcohol = 0;

        void copyFrom(Order other) {
            due = other.due;
            litres = other.litres;
            least = other.least;
            greatest = other.greatest;
            status = other.status;
            duty = other.duty;
            fillDay = other.fillDay;
            fillStrength = other.fillStrength;
            fillAlcohol = other.fillAlcohol;
        }

        boolean allows(int strength) {
            return strength >= least && strength <= greatest;
        }

        /** Whether this is planned ahead of an order with a lower number. */
        boolean aheadOf(Order earlier) {
            return due < earlier.due || (due == earlier.due && litres > earlier.litres);
        }
    }

    /** The journal: the number of all entries, and the parts of those that are kept. */
    private static final class Journal {
        int made = 0;
        private final int[] parts = new int[ENTRIES * ENTRY_PARTS];

        void copyFrom(Journal other) {
            made = other.made;
            System.arraycopy(other.parts, 0, parts, 0, ENTRIES * ENTRY_PARTS);
        }

        void write(int day, int kind, int tank, int litres) {
            if (made >= 0 && made < ENTRIES) {
                int at = made * ENTRY_PARTS;
                parts[at] = day;
                parts[at + 1] = kind;
                parts[at + 2] = tank;
                parts[at + 3] = litres;
            }
            made++;
        }

        int part(int number, int what) {
            if (number < 0 || number >= made || number >= ENTRIES || outside(what, 0, ENTRY_PARTS - 1)) {
                return NONE;
            }
            return parts[number * ENTRY_PARTS + what];
        }
    }

    /** All that the snapshot contains and that changes are about. */
    private static final class State {
        int day = 0;
        int transferLoss = FIRST_LOSS;
        final Tank[] tanks = new Tank[TANKS];
        int batchCount = 0;
        final int[] strengths = new int[BATCHES];
        final int[] brewDays = new int[BATCHES];
        final Blend brewed = new Blend();
        final Blend filled = new Blend();
        final Blend lost = new Blend();
        final int[] lostFor = new int[LOSS_REASONS];
        int rateCount = 0;
        final Rate[] rates = new Rate[RATES];
        int orderCount = 0;
        final Order[] orders = new Order[ORDERS];
        long paid = 0;
        long corrected = 0;
        final Journal journal = new Journal();

        State() {
            for (int i = 0; i < TANKS; i++) {
                tanks[i] = new Tank();
            }
            for (int i = 0; i < RATES; i++) {
                rates[i] = new Rate();
            }
            for (int i = 0; i < ORDERS; i++) {
                orders[i] = new Order();
            }
        }

        void copyFrom(State other) {
            day = other.day;
            transferLoss = other.transferLoss;
            for (int i = 0; i < TANKS; i++) {
                tanks[i].copyFrom(other.tanks[i]);
            }
            batchCount = other.batchCount;
            System.arraycopy(other.strengths, 0, strengths, 0, BATCHES);
            System.arraycopy(other.brewDays, 0, brewDays, 0, BATCHES);
            brewed.copyFrom(other.brewed);
            filled.copyFrom(other.filled);
            lost.copyFrom(other.lost);
            System.arraycopy(other.lostFor, 0, lostFor, 0, LOSS_REASONS);
            rateCount = other.rateCount;
            for (int i = 0; i < RATES; i++) {
                rates[i].copyFrom(other.rates[i]);
            }
            orderCount = other.orderCount;
            for (int i = 0; i < ORDERS; i++) {
                orders[i].copyFrom(other.orders[i]);
            }
            paid = other.paid;
            corrected = other.corrected;
            journal.copyFrom(other.journal);
        }

        /** The tank with a number, or null. */
        Tank tankAt(int number) {
            return outside(number, 0, TANKS - 1) ? null : tanks[number];
        }

        /** The order with a number, or null. */
        Order orderAt(int number) {
            return number < 0 || number >= orderCount || number >= ORDERS ? null : orders[number];
        }

        void note(int kind, int tank, int litres) {
            journal.write(day, kind, tank, litres);
        }

        /** Adds a batch; its number is looked at by the caller, which refuses more than there is room for. */
        int addBatch(int litres, int strength) {
            int batch = batchCount;
            strengths[batch] = strength;
            brewDays[batch] = day;
            brewed.parts[batch] = litres;
            batchCount++;
            return batch;
        }

        void writeOff(int tank, Blend blend, int litres, int reason) {
            lost.add(blend);
            lostFor[reason] += litres;
            note(LOST, tank, litres);
        }

        int inTanks(int batch) {
            int sum = 0;
            for (int i = 0; i < TANKS; i++) {
                sum += tanks[i].content.parts[batch];
            }
            return sum;
        }

        int tanksWith(int batch) {
            int set = 0;
            for (int i = 0; i < TANKS; i++) {
                if (tanks[i].content.parts[batch] > 0) {
                    set |= 1 << i;
                }
            }
            return set;
        }

        int litresInTanks() {
            int sum = 0;
            for (int i = 0; i < TANKS; i++) {
                sum += tanks[i].content.total();
            }
            return sum;
        }

        long alcoholInTanks() {
            long sum = 0;
            for (int i = 0; i < TANKS; i++) {
                sum += tanks[i].content.alcohol(strengths);
            }
            return sum;
        }

        int tanksInPhase(int phase) {
            int number = 0;
            for (int i = 0; i < TANKS; i++) {
                if (tanks[i].phase == phase) {
                    number++;
                }
            }
            return number;
        }

        int openOrders() {
            int number = 0;
            for (int i = 0; i < orderCount && i < ORDERS; i++) {
                if (orders[i].status == ORDER_OPEN) {
                    number++;
                }
            }
            return number;
        }

        int openLitres() {
            int sum = 0;
            for (int i = 0; i < orderCount && i < ORDERS; i++) {
                if (orders[i].status == ORDER_OPEN) {
                    sum += orders[i].litres;
                }
            }
            return sum;
        }

        /** The number of the rate that holds, NOTHING without one. */
        int rateFor(int date, int strength) {
            int found = NOTHING;
            for (int i = 0; i < rateCount && i < RATES; i++) {
                Rate rate = rates[i];
                if (rate.day > date || rate.strength > strength) {
                    continue;
                }
                if (found < 0 || rate.strength > rates[found].strength
                        || (rate.strength == rates[found].strength && rate.day >= rates[found].day)) {
                    found = i;
                }
            }
            return found;
        }

        /** The duty on the filling of an order, by the rates as they are now. */
        int dutyOn(Order order) {
            int rate = rateFor(order.fillDay, order.fillStrength);
            return rate < 0 ? 0 : (int) ((order.fillAlcohol * rates[rate].amount + 9999) / 10000);
        }

        long dutyNow() {
            long sum = 0;
            for (int i = 0; i < orderCount && i < ORDERS; i++) {
                if (orders[i].status == ORDER_FILLED) {
                    sum += dutyOn(orders[i]);
                }
            }
            return sum;
        }

        long stillDue() {
            return dutyNow() - paid - corrected;
        }
    }

    /** The plan of fillings, reckoned anew whenever it is asked for. */
    private static final class Plan {
        int length = 0;
        final int[] orders = new int[ORDERS];
        final int[] tanks = new int[ORDERS];
        private int queued = 0;
        private final int[] queue = new int[ORDERS];
        private final Blend[] left = new Blend[TANKS];
        private final Portion taken = new Portion();

        Plan() {
            for (int i = 0; i < TANKS; i++) {
                left[i] = new Blend();
            }
        }

        void reckon(State state) {
            queueOpenOrders(state);
            for (int i = 0; i < TANKS; i++) {
                left[i].copyFrom(state.tanks[i].content);
            }
            length = 0;
            for (int i = 0; i < queued; i++) {
                Order order = state.orders[queue[i]];
                int tank = bestTank(order, state.strengths);
                if (tank >= 0) {
                    taken.take(left[tank], order.litres);
                    left[tank].remove(taken.blend);
                    orders[length] = queue[i];
                    tanks[length] = tank;
                    length++;
                }
            }
        }

        int tankOf(int order) {
            for (int i = 0; i < length; i++) {
                if (orders[i] == order) {
                    return tanks[i];
                }
            }
            return NOTHING;
        }

        private void queueOpenOrders(State state) {
            queued = 0;
            for (int i = 0; i < state.orderCount && i < ORDERS; i++) {
                Order order = state.orders[i];
                if (order.status != ORDER_OPEN) {
                    continue;
                }
                int place = queued;
                for (; place > 0 && order.aheadOf(state.orders[queue[place - 1]]); place--) {
                    queue[place] = queue[place - 1];
                }
                queue[place] = i;
                queued++;
            }
        }

        /** The tank from which an order is planned, NOTHING without one. */
        private int bestTank(Order order, int[] strengths) {
            int best = NOTHING;
            int fewest = 0;
            for (int i = 0; i < TANKS; i++) {
                int litres = left[i].total();
                if (litres >= order.litres && order.allows(left[i].strength(strengths))
                        && (best < 0 || litres < fewest)) {
                    best = i;
                    fewest = litres;
                }
            }
            return best;
        }
    }

    /** Looks for the mixture of two blends that comes nearest to a strength. */
    private static final class Mixer {
        private final Portion taken = new Portion();

        /** The litres of the first blend, NOTHING if both together have too few. */
        int nearest(Blend one, Blend other, int[] strengths, int litres, int strength) {
            long oneAll = one.total();
            long otherAll = other.total();
            int least = (int) Math.max(0, litres - otherAll);
            int most = (int) Math.min(litres, oneAll);
            if (least > most) {
                return NOTHING;
            }
            // Without rounding to whole litres the alcohol would lie on a line, and rounding moves it by at most
            // the sum of the strengths: where the line is too far off, the portions need not be taken.
            long wanted = (long) litres * strength;
            long scale = oneAll * otherAll;
            long rise = one.alcohol(strengths) * otherAll - other.alcohol(strengths) * oneAll;
            long start = other.alcohol(strengths) * oneAll * litres - wanted * scale;
            long rounding = one.sumOfStrengths(strengths) + other.sumOfStrengths(strengths);
            int found = rise == 0 ? least : (int) Math.max(least, Math.min(most, -start / rise));
            long closest = distanceAt(one, other, strengths, litres, found, wanted) + 1;
            for (int first = least; first <= most; first++) {
                if (Math.abs(start + rise * first) >= (closest + rounding) * scale) {
                    continue;
                }
                long off = distanceAt(one, other, strengths, litres, first, wanted);
                if (off < closest) {
                    closest = off;
                    found = first;
                }
            }
            return found;
        }

        private long distanceAt(Blend one, Blend other, int[] strengths, int litres, int first, long wanted) {
            taken.take(one, first);
            long alcohol = taken.blend.alcohol(strengths);
            taken.take(other, litres - first);
            return Math.abs(alcohol + taken.blend.alcohol(strengths) - wanted);
        }
    }

    /** A command as it was read; what its letter does not need is 0. */
    private static final class Command {
        int letter = 0;
        int tank = 0;
        int other = 0;
        int number = 0;
    }

    /** The tape, and the commands that were read from it. */
    private static final class Tape {
        int length = 0;
        private final int[] bytes = new int[TAPE_BYTES];
        /** The place of the next byte to read; when the text is wrong, the error position. */
        int at = 0;
        private boolean wrong = false;
        int commandCount = 0;
        final Command[] commands = new Command[TAPE_COMMANDS];

        Tape() {
            for (int i = 0; i < TAPE_COMMANDS; i++) {
                commands[i] = new Command();
            }
        }

        void append(int sign) {
            if (length < TAPE_BYTES) {
                bytes[length] = sign;
                length++;
            }
        }

        /** Reads all commands; answers whether the text is right. */
        boolean readCommands() {
            at = 0;
            wrong = false;
            commandCount = 0;
            for (int i = 0; i < TAPE_COMMANDS; i++) {
                readCommand(commands[i]);
                if (wrong) {
                    return false;
                }
                commandCount++;
                if (at >= length) {
                    return true;
                }
                readSign(';');
            }
            return false;
        }

        private void readCommand(Command command) {
            command.letter = next();
            at++;
            switch (command.letter) {
                case 't':
                    command.tank = readDigit();
                    readSign('>');
                    command.other = readDigit();
                    readSign(':');
                    command.number = readNumber();
                    break;
                case 'l':
                    command.tank = readDigit();
                    readSign(':');
                    command.number = readNumber();
                    readSign('/');
                    command.other = readDigit();
                    break;
                case 'f':
                    command.tank = readDigit();
                    readSign('#');
                    command.number = readNumber();
                    break;
                case 'c':
                    command.tank = readDigit();
                    break;
                case 'd':
                    command.number = readNumber();
                    break;
                default:
                    at--;
                    wrong = true;
            }
        }

        /** The next byte, NOTHING at the end and behind an error. */
        private int next() {
            return wrong || at < 0 || at >= length || at >= TAPE_BYTES ? NOTHING : bytes[at];
        }

        private boolean digitNext() {
            return next() >= '0' && next() <= '9';
        }

        private void readSign(char sign) {
            if (next() == sign) {
                at++;
            } else {
                wrong = true;
            }
        }

        private int readDigit() {
            if (!digitNext()) {
                wrong = true;
                return 0;
            }
            int digit = next() - '0';
            at++;
            return digit;
        }

        private int readNumber() {
            int number = readDigit();
            for (int i = 1; i < MOST_DIGITS && digitNext(); i++) {
                number = number * 10 + readDigit();
            }
            return number;
        }
    }
}
