/** Voltage control along a distribution feeder: regulators, capacitor banks, a daily profile and a tap plan. */
public final class FeederControl {
    public static final int OUT_OF_RANGE = -2;
    public static final int EXISTS = -3;
    public static final int MISSING = -4;
    public static final int FULL = -5;
    public static final int NOTHING_SAVED = -6;

    private static final int MAX_NODES = 8;
    private static final int MINUTES_OF_HOUR = 60;
    private static final int MINUTES_OF_DAY = 1440;
    private static final int HOURS = 24;
    private static final int LAST_HOUR = 23;

    private static final int MIN_SET_VOLTAGE = 9000;
    private static final int MAX_SET_VOLTAGE = 11000;
    private static final int NOMINAL_VOLTAGE = 10000;
    private static final int LOWEST_GOOD_VOLTAGE = 9500;
    private static final int HIGHEST_GOOD_VOLTAGE = 10500;

    private static final int MAX_IMPEDANCE = 50;
    private static final int MAX_ACTIVE = 500;
    private static final int MAX_REACTIVE = 300;
    private static final int MAX_FACTOR = 200;
    private static final int FULL_FACTOR = 100;

    private static final int MAX_TAP = 16;
    private static final int TAPS = 33;
    private static final int TAP_BASE = 160;
    private static final int MIN_BAND = 10;
    private static final int MAX_BAND = 500;
    private static final int MAX_DELAY = 30;
    private static final int OPPOSITE_STEPS_TO_LOCK = 3;

    private static final int MAX_BANK_SIZE = 300;
    private static final int BY_HAND = 0;
    private static final int BY_TIME = 1;
    private static final int BY_FLOW = 2;
    private static final int MAX_FLOW_LIMIT = 3000;

    private static final int MAX_TEXT = 120;
    private static final int MAX_BYTE = 127;
    private static final int MAX_DIGITS = 3;
    private static final int SYNTAX_ERROR_BASE = -10;

    private static final int MAX_SAVED = 3;
    private static final int ERROR_CODES = 5;
    private static final int TAP_OFFSET = 100;
    private static final int FLOW_OFFSET = 10000;
    private static final long DIGEST_START = 2749L;

    private final Feeder feeder = new Feeder();
    private final Flows flows = new Flows();
    private final Planner planner = new Planner();
    private final ProfileText text = new ProfileText();
    private final History history = new History();
    private final int[] newFactors = new int[HOURS];
    private final int[] errorCounts = new int[ERROR_CODES];

    public FeederControl() {
    }

    // ---- feeder

    public int setSource(int voltage) {
        if (!isWithin(voltage, MIN_SET_VOLTAGE, MAX_SET_VOLTAGE)) {
            return refuse(OUT_OF_RANGE);
        }
        history.save(feeder);
        int previous = feeder.source;
        feeder.source = voltage;
        return previous;
    }

    public int addNode(int r, int x, int p, int q) {
        if (!isWithin(r, 0, MAX_IMPEDANCE) || !isWithin(x, 0, MAX_IMPEDANCE) || !isLoad(p, q)) {
            return refuse(OUT_OF_RANGE);
        }
        if (feeder.count >= MAX_NODES) {
            return refuse(FULL);
        }
        history.save(feeder);
        feeder.count++;
        Node node = feeder.nodes[feeder.count];
        node.r = r;
        node.x = x;
        node.p = p;
        node.q = q;
        return feeder.count;
    }

    public int setLoad(int node, int p, int q) {
        if (!hasNode(node) || !isLoad(p, q)) {
            return refuse(OUT_OF_RANGE);
        }
        history.save(feeder);
        feeder.nodes[node].p = p;
        feeder.nodes[node].q = q;
        return 1;
    }

    public int setFactor(int hour, int factor) {
        if (!isHour(hour) || !isWithin(factor, 0, MAX_FACTOR)) {
            return refuse(OUT_OF_RANGE);
        }
        history.save(feeder);
        int previous = feeder.factors[hour];
        feeder.factors[hour] = factor;
        return previous;
    }

    public int append(int value) {
        if (!isWithin(value, 0, MAX_BYTE)) {
            return refuse(OUT_OF_RANGE);
        }
        if (text.length >= MAX_TEXT) {
            return refuse(FULL);
        }
        text.bytes[text.length] = (byte) value;
        text.length++;
        return text.length;
    }

    public int clearText() {
        int previous = text.length;
        text.length = 0;
        return previous;
    }

    public int parseProfile() {
        System.arraycopy(feeder.factors, 0, newFactors, 0, HOURS);
        int items = text.readItems(newFactors);
        if (text.fault >= 0) {
            return SYNTAX_ERROR_BASE - text.fault;
        }
        history.save(feeder);
        System.arraycopy(newFactors, 0, feeder.factors, 0, HOURS);
        return items;
    }

    // ---- devices

    public int addRegulator(int segment, int center, int band, int delay, int reverse) {
        if (!hasNode(segment) || !isWithin(center, MIN_SET_VOLTAGE, MAX_SET_VOLTAGE)
                || !isWithin(band, MIN_BAND, MAX_BAND) || !isWithin(delay, 0, MAX_DELAY)
                || !isWithin(reverse, 0, 1)) {
            return refuse(OUT_OF_RANGE);
        }
        Regulator regulator = feeder.nodes[segment].regulator;
        if (regulator.present) {
            return refuse(EXISTS);
        }
        history.save(feeder);
        regulator.present = true;
        regulator.center = center;
        regulator.band = band;
        regulator.delay = delay;
        regulator.stopsOnReverse = reverse == 1;
        return 1;
    }

    public int setTap(int segment, int tap) {
        if (!isWithin(tap, -MAX_TAP, MAX_TAP)) {
            return refuse(OUT_OF_RANGE);
        }
        int fault = regulatorFault(segment);
        if (fault != 0) {
            return refuse(fault);
        }
        history.save(feeder);
        Regulator regulator = feeder.nodes[segment].regulator;
        int previous = regulator.tap;
        regulator.tap = tap;
        return TAP_OFFSET + previous;
    }

    public int addBank(int node, int size, int mode, int a, int b, int delay) {
        if (!hasNode(node) || !isWithin(size, 1, MAX_BANK_SIZE) || !areBankSettings(mode, a, b)
                || !isWithin(delay, 0, MAX_DELAY)) {
            return refuse(OUT_OF_RANGE);
        }
        Bank bank = feeder.nodes[node].bank;
        if (bank.present) {
            return refuse(EXISTS);
        }
        history.save(feeder);
        bank.present = true;
        bank.size = size;
        bank.mode = mode;
        bank.a = a;
        bank.b = b;
        bank.delay = delay;
        return 1;
    }

    public int switchBank(int node, int on) {
        if (!isWithin(on, 0, 1)) {
            return refuse(OUT_OF_RANGE);
        }
        int fault = bankFault(node);
        if (fault != 0) {
            return refuse(fault);
        }
        history.save(feeder);
        Bank bank = feeder.nodes[node].bank;
        int previous = bit(bank.on);
        bank.on = on == 1;
        return previous;
    }

    // ---- running

    public int run(int minutes) {
        if (!isWithin(minutes, 0, MINUTES_OF_DAY)) {
            return refuse(OUT_OF_RANGE);
        }
        history.save(feeder);
        int moves = 0;
        for (int i = 0; i < minutes; i++) {
            if (passMinute()) {
                moves++;
            }
        }
        return moves;
    }

    public int minute() {
        return feeder.minutes;
    }

    /** Tells whether a bank in mode 2 was switched or a regulator made a step: a minute brings one of them at most. */
    private boolean passMinute() {
        feeder.minutes++;
        if (feeder.minutes % MINUTES_OF_HOUR == 0) {
            feeder.releaseLocks();
        }
        feeder.switchBanksByTime();
        flows.solve(feeder);
        boolean switched = feeder.switchBankByFlow(flows);
        boolean stepped = feeder.moveRegulators(flows, !switched);
        if (switched || stepped) {
            flows.solve(feeder);
        }
        feeder.violations += flows.countBadNodes(feeder.count);
        return switched || stepped;
    }

    // ---- values

    public int voltage(int node) {
        if (!isWithin(node, 0, feeder.count)) {
            return refuse(OUT_OF_RANGE);
        }
        flows.solve(feeder);
        return flows.voltage[node];
    }

    public int activeFlow(int segment) {
        if (!hasNode(segment)) {
            return refuse(OUT_OF_RANGE);
        }
        flows.solve(feeder);
        return FLOW_OFFSET + flows.active[segment];
    }

    public int reactiveFlow(int segment) {
        if (!hasNode(segment)) {
            return refuse(OUT_OF_RANGE);
        }
        flows.solve(feeder);
        return FLOW_OFFSET + flows.reactive[segment];
    }

    public int tap(int segment) {
        int fault = regulatorFault(segment);
        return fault != 0 ? refuse(fault) : TAP_OFFSET + feeder.nodes[segment].regulator.tap;
    }

    public int timer(int segment) {
        int fault = regulatorFault(segment);
        return fault != 0 ? refuse(fault) : feeder.nodes[segment].regulator.timer;
    }

    public int isLocked(int segment) {
        int fault = regulatorFault(segment);
        return fault != 0 ? refuse(fault) : bit(feeder.nodes[segment].regulator.locked);
    }

    public int steps(int segment) {
        int fault = regulatorFault(segment);
        return fault != 0 ? refuse(fault) : feeder.nodes[segment].regulator.steps;
    }

    public int isOn(int node) {
        int fault = bankFault(node);
        return fault != 0 ? refuse(fault) : bit(feeder.nodes[node].bank.on);
    }

    public int violations() {
        return feeder.violations;
    }

    // ---- plan

    public int planSteps(int segment) {
        int fault = regulatorFault(segment);
        if (fault != 0) {
            return refuse(fault);
        }
        return planner.makePlan(feeder, segment) ? planner.steps : refuse(MISSING);
    }

    public int planTap(int segment, int hour) {
        if (!isHour(hour)) {
            return refuse(OUT_OF_RANGE);
        }
        int fault = regulatorFault(segment);
        if (fault != 0) {
            return refuse(fault);
        }
        return planner.makePlan(feeder, segment) ? TAP_OFFSET + planner.taps[hour] : refuse(MISSING);
    }

    // ---- state

    public int undo() {
        if (history.count <= 0) {
            return refuse(NOTHING_SAVED);
        }
        history.restore(feeder);
        return history.count;
    }

    public int errorCount(int code) {
        return isErrorCode(code) ? errorCounts[OUT_OF_RANGE - code] : refuse(OUT_OF_RANGE);
    }

    public long digest() {
        flows.solve(feeder);
        long h = DIGEST_START;
        for (int i = 0; i < ERROR_CODES; i++) {
            h = mix(h, errorCounts[i]);
        }
        h = mix(h, text.length);
        h = mix(h, feeder.minutes);
        h = mix(h, feeder.source);
        for (int hour = 0; hour < HOURS; hour++) {
            h = mix(h, feeder.factors[hour]);
        }
        h = mix(h, feeder.count);
        for (int k = 1; k <= feeder.count; k++) {
            h = mix(h, flows.voltage[k]);
            h = mix(h, flows.active[k]);
            h = mix(h, flows.reactive[k]);
            h = mixRegulator(h, feeder.nodes[k].regulator);
            h = mixBank(h, feeder.nodes[k].bank);
        }
        h = mix(h, feeder.violations);
        return mix(h, history.count);
    }

    private static long mixRegulator(long start, Regulator regulator) {
        long h = mix(start, bit(regulator.present));
        if (!regulator.present) {
            return h;
        }
        h = mix(h, regulator.tap);
        h = mix(h, regulator.timer);
        h = mix(h, bit(regulator.locked));
        return mix(h, regulator.steps);
    }

    private static long mixBank(long start, Bank bank) {
        long h = mix(start, bit(bank.present));
        if (!bank.present) {
            return h;
        }
        h = mix(h, bit(bank.on));
        return mix(h, bank.timer);
    }

    private static long mix(long h, int value) {
        return 31L * h + value;
    }

    // ---- checks

    private static boolean isWithin(int value, int low, int high) {
        return value >= low && value <= high;
    }

    private static boolean isHour(int value) {
        return isWithin(value, 0, LAST_HOUR);
    }

    private static boolean isLoad(int p, int q) {
        return isWithin(p, -MAX_ACTIVE, MAX_ACTIVE) && isWithin(q, -MAX_REACTIVE, MAX_REACTIVE);
    }

    private static boolean areBankSettings(int mode, int a, int b) {
        if (mode == BY_TIME) {
            return isHour(a) && isHour(b);
        }
        if (mode == BY_FLOW) {
            return isWithin(a, -MAX_FLOW_LIMIT, MAX_FLOW_LIMIT)
                    && isWithin(b, -MAX_FLOW_LIMIT, MAX_FLOW_LIMIT) && a < b;
        }
        return mode == BY_HAND;
    }

    private static int bit(boolean value) {
        return value ? 1 : 0;
    }

    private boolean hasNode(int k) {
        return isWithin(k, 1, feeder.count);
    }

    /** The error code of a call that needs the segment's regulator, or 0 if it is there. */
    private int regulatorFault(int segment) {
        if (!hasNode(segment)) {
            return OUT_OF_RANGE;
        }
        return feeder.nodes[segment].regulator.present ? 0 : MISSING;
    }

    /** The error code of a call that needs the node's bank, or 0 if it is there. */
    private int bankFault(int node) {
        if (!hasNode(node)) {
            return OUT_OF_RANGE;
        }
        return feeder.nodes[node].bank.present ? 0 : MISSING;
    }

    private static boolean isErrorCode(int code) {
        return isWithin(code, NOTHING_SAVED, OUT_OF_RANGE);
    }

    private int refuse(int code) {
        if (isErrorCode(code)) {
            errorCounts[OUT_OF_RANGE - code]++;
        }
        return code;
    }

    /** A regulator's place on a segment; an absent one keeps its tap at 0, which changes no voltage. */
    private static final class Regulator {
        boolean present;
        int center;
        int band;
        int delay;
        boolean stopsOnReverse;
        int tap;
        int timer;
        int steps;
        boolean locked;
        /** The direction wanted in the latest minute: 1 up, -1 down, 0 none. */
        int wanted;
        /** The direction of the latest step, 0 before the first. */
        int latest;
        int oppositeSteps;

        void copyFrom(Regulator other) {
            present = other.present;
            center = other.center;
            band = other.band;
            delay = other.delay;
            stopsOnReverse = other.stopsOnReverse;
            tap = other.tap;
            timer = other.timer;
            steps = other.steps;
            locked = other.locked;
            wanted = other.wanted;
            latest = other.latest;
            oppositeSteps = other.oppositeSteps;
        }

        void release() {
            locked = false;
            oppositeSteps = 0;
        }

        int wantedDirection(int voltage, int activeFlow) {
            if (locked || (stopsOnReverse && activeFlow < 0)) {
                return 0;
            }
            if (voltage < center - band && tap < MAX_TAP) {
                return 1;
            }
            return voltage > center + band && tap > -MAX_TAP ? -1 : 0;
        }

        void countMinute(int direction) {
            if (direction == 0) {
                timer = 0;
            } else if (direction == -wanted) {
                timer = 1;
            } else {
                timer++;
            }
            wanted = direction;
        }

        boolean isDue() {
            return wanted != 0 && timer > delay;
        }

        void makeStep() {
            if (latest == -wanted) {
                oppositeSteps++;
                locked = oppositeSteps >= OPPOSITE_STEPS_TO_LOCK;
            }
            latest = wanted;
            tap += wanted;
            steps++;
            timer = 0;
            wanted = 0;
        }
    }

    /** A capacitor bank's place at a node; an absent one is off. */
    private static final class Bank {
        boolean present;
        int size;
        int mode;
        int a;
        int b;
        int delay;
        boolean on;
        int timer;

        void copyFrom(Bank other) {
            present = other.present;
            size = other.size;
            mode = other.mode;
            a = other.a;
            b = other.b;
            delay = other.delay;
            on = other.on;
            timer = other.timer;
        }

        boolean isByTime() {
            return present && mode == BY_TIME;
        }

        boolean isByFlow() {
            return present && mode == BY_FLOW;
        }

        boolean isOnByTime(int hour) {
            return a < b ? a <= hour && hour < b : hour >= a || hour < b;
        }

        /** What the bank takes off the reactive load; a plan looks at the hours as banks in mode 1 will be in them. */
        int supply(int hour, boolean planned) {
            boolean works = planned && isByTime() ? isOnByTime(hour) : on;
            return works ? size : 0;
        }

        void countMinute(int reactiveFlow) {
            boolean wants = on ? reactiveFlow < a : reactiveFlow > b;
            timer = wants ? timer + 1 : 0;
        }

        boolean isDue() {
            return timer > delay;
        }

        void change() {
            on = !on;
            timer = 0;
        }
    }

    /** A node with the segment above it and what stands on both. */
    private static final class Node {
        int r;
        int x;
        int p;
        int q;
        final Regulator regulator = new Regulator();
        final Bank bank = new Bank();

        void copyFrom(Node other) {
            r = other.r;
            x = other.x;
            p = other.p;
            q = other.q;
            regulator.copyFrom(other.regulator);
            bank.copyFrom(other.bank);
        }
    }

    /** All that undo brings back. */
    private static final class Feeder {
        int minutes;
        int source = NOMINAL_VOLTAGE;
        int count;
        int violations;
        final int[] factors = new int[HOURS];
        /** Node k stands at index k; index 0 is filled but not used, for the source has neither load nor segment. */
        final Node[] nodes = new Node[MAX_NODES + 1];

        Feeder() {
            for (int hour = 0; hour < HOURS; hour++) {
                factors[hour] = FULL_FACTOR;
            }
            for (int k = 0; k <= MAX_NODES; k++) {
                nodes[k] = new Node();
            }
        }

        /** Copies the places beyond the last node too, so that a node added after an undo finds its place untouched. */
        void copyFrom(Feeder other) {
            minutes = other.minutes;
            source = other.source;
            count = other.count;
            violations = other.violations;
            System.arraycopy(other.factors, 0, factors, 0, HOURS);
            for (int k = 1; k <= MAX_NODES; k++) {
                nodes[k].copyFrom(other.nodes[k]);
            }
        }

        /** Minutes that pass the int range (after the promised calls) still give an hour of the day. */
        int hour() {
            return Math.floorMod(minutes / MINUTES_OF_HOUR, HOURS);
        }

        void releaseLocks() {
            for (int k = 1; k <= count; k++) {
                nodes[k].regulator.release();
            }
        }

        void switchBanksByTime() {
            int hour = hour();
            for (int k = 1; k <= count; k++) {
                Bank bank = nodes[k].bank;
                if (bank.isByTime()) {
                    bank.on = bank.isOnByTime(hour);
                }
            }
        }

        /** Tells whether a bank was switched; the timers of all banks in mode 2 go on, whichever is switched. */
        boolean switchBankByFlow(Flows flows) {
            boolean switched = false;
            for (int k = 1; k <= count; k++) {
                Bank bank = nodes[k].bank;
                if (bank.isByFlow()) {
                    bank.countMinute(flows.reactive[k]);
                    if (!switched && bank.isDue()) {
                        bank.change();
                        switched = true;
                    }
                }
            }
            return switched;
        }

        /** Tells whether a regulator made a step; the timers of all regulators go on, even if none may step. */
        boolean moveRegulators(Flows flows, boolean mayStep) {
            boolean stepped = false;
            for (int k = 1; k <= count; k++) {
                Regulator regulator = nodes[k].regulator;
                if (regulator.present) {
                    regulator.countMinute(regulator.wantedDirection(flows.voltage[k], flows.active[k]));
                    if (mayStep && !stepped && regulator.isDue()) {
                        regulator.makeStep();
                        stepped = true;
                    }
                }
            }
            return stepped;
        }
    }

    /** The flows and voltages of a feeder; index k is segment k, and node k. */
    private static final class Flows {
        final int[] active = new int[MAX_NODES + 1];
        final int[] reactive = new int[MAX_NODES + 1];
        final int[] voltage = new int[MAX_NODES + 1];

        void solve(Feeder feeder) {
            sumLoads(feeder, feeder.hour(), false);
            findVoltages(feeder, 0, 0);
        }

        void sumLoads(Feeder feeder, int hour, boolean planned) {
            int factor = feeder.factors[hour];
            int p = 0;
            int q = 0;
            for (int k = feeder.count; k >= 1; k--) {
                Node node = feeder.nodes[k];
                p += node.p * factor / 100;
                q += node.q * factor / 100 - node.bank.supply(hour, planned);
                active[k] = p;
                reactive[k] = q;
            }
        }

        /** The regulator of one segment can be looked at with another tap than it has; segment 0 means none. */
        void findVoltages(Feeder feeder, int otherSegment, int otherTap) {
            int above = feeder.source;
            voltage[0] = above;
            for (int k = 1; k <= feeder.count; k++) {
                Node node = feeder.nodes[k];
                int tap = k == otherSegment ? otherTap : node.regulator.tap;
                int regulated = above * (TAP_BASE + tap) / TAP_BASE;
                int below = regulated - (node.r * active[k] + node.x * reactive[k]) / 100;
                above = Math.max(below, 0);
                voltage[k] = above;
            }
        }

        int countBadNodes(int count) {
            int bad = 0;
            for (int k = 1; k <= count && k <= MAX_NODES; k++) {
                if (!isWithin(voltage[k], LOWEST_GOOD_VOLTAGE, HIGHEST_GOOD_VOLTAGE)) {
                    bad++;
                }
            }
            return bad;
        }
    }

    /** Finds the plan from the last hour back to the first; a tap t stands at index t + MAX_TAP. */
    private static final class Planner {
        /** Far above any number of steps (24 hours of 32 steps), and far below what would overflow. */
        static final int IMPOSSIBLE = 1000000;

        final Flows flows = new Flows();
        /** The fewest steps that follow an hour with a tap in it. */
        final int[][] stepsAfter = new int[HOURS][TAPS];
        /** The fewest steps that still come if a tap stands before the hour looked at. */
        final int[] stepsFrom = new int[TAPS];
        final int[] taps = new int[HOURS];
        int steps;

        /** Tells whether there is a plan. */
        boolean makePlan(Feeder feeder, int segment) {
            for (int i = 0; i < TAPS; i++) {
                stepsFrom[i] = 0;
            }
            for (int hour = HOURS - 1; hour >= 0; hour--) {
                countStepsAfter(feeder, segment, hour);
                countStepsFrom(hour);
            }
            return chooseTaps(feeder.nodes[segment].regulator.tap + MAX_TAP);
        }

        private void countStepsAfter(Feeder feeder, int segment, int hour) {
            flows.sumLoads(feeder, hour, true);
            for (int i = 0; i < TAPS; i++) {
                flows.findVoltages(feeder, segment, i - MAX_TAP);
                boolean allowed = flows.countBadNodes(feeder.count) == 0;
                stepsAfter[hour][i] = allowed ? stepsFrom[i] : IMPOSSIBLE;
            }
        }

        /** A way to a farther tap leads through its neighbour, so one pass up and one down find every way. */
        private void countStepsFrom(int hour) {
            for (int i = 0; i < TAPS; i++) {
                stepsFrom[i] = stepsAfter[hour][i];
            }
            for (int i = 1; i < TAPS; i++) {
                stepsFrom[i] = Math.min(stepsFrom[i], stepsFrom[i - 1] + 1);
            }
            for (int i = TAPS - 2; i >= 0; i--) {
                stepsFrom[i] = Math.min(stepsFrom[i], stepsFrom[i + 1] + 1);
            }
        }

        /** The lowest of the best taps, hour by hour from the first on, is the document's plan; false if none is. */
        private boolean chooseTaps(int present) {
            steps = 0;
            int before = present;
            for (int hour = 0; hour < HOURS; hour++) {
                int best = bestPlace(hour, before);
                if (best < 0) {
                    return false;
                }
                steps += Math.abs(best - before);
                taps[hour] = best - MAX_TAP;
                before = best;
            }
            return true;
        }

        /** The place of the lowest of the hour's best taps, or -1 if none leads through the rest of the day. */
        private int bestPlace(int hour, int before) {
            int best = -1;
            int bestSteps = IMPOSSIBLE;
            for (int i = 0; i < TAPS; i++) {
                int total = Math.abs(i - before) + stepsAfter[hour][i];
                if (total < bestSteps) {
                    best = i;
                    bestSteps = total;
                }
            }
            return best;
        }
    }

    /** The profile text and its reader; after a fault the reader's steps do nothing more. */
    private static final class ProfileText {
        final byte[] bytes = new byte[MAX_TEXT];
        int length;
        private int at;
        /** Where the syntax error is, or -1. */
        int fault;

        /** Sets the factors that the items name and returns the number of items. */
        int readItems(int[] factors) {
            at = 0;
            fault = -1;
            int items = 0;
            skipSpaces();
            // each item takes a byte at least or ends in a fault, so there are no more items than bytes
            for (int left = length; left > 0 && at < length && fault < 0; left--) {
                readItem(factors);
                skipSpaces();
                items++;
            }
            return items;
        }

        private void readItem(int[] factors) {
            int first = readNumber(0, LAST_HOUR);
            int last = first;
            if (isNext('-')) {
                expect('-');
                last = readNumber(first, LAST_HOUR);
            }
            expect(':');
            int factor = readNumber(0, MAX_FACTOR);
            expect(';');
            if (fault >= 0) {
                return;
            }
            for (int hour = first; hour <= last; hour++) {
                factors[hour] = factor;
            }
        }

        /** Reads a number after any spaces. What is wrong but a fourth digit is wrong at the place of the first. */
        private int readNumber(int low, int high) {
            if (fault >= 0) {
                return low;
            }
            skipSpaces();
            int start = at;
            int value = 0;
            while (at < length && isWithin(bytes[at], '0', '9')) {
                if (at - start == MAX_DIGITS) {
                    fault = at;
                    return low;
                }
                value = 10 * value + bytes[at] - '0';
                at++;
            }
            if (at == start || !isWithin(value, low, high)) {
                fault = start;
                return low;
            }
            return value;
        }

        private boolean isNext(char sign) {
            skipSpaces();
            return at < length && bytes[at] == sign;
        }

        private void expect(char sign) {
            if (fault >= 0) {
                return;
            }
            if (isNext(sign)) {
                at++;
            } else {
                fault = at;
            }
        }

        private void skipSpaces() {
            while (at < length && bytes[at] == ' ') {
                at++;
            }
        }
    }

    /** The saved states, the oldest first; their places are made once and used again. */
    private static final class History {
        final Feeder[] saved = new Feeder[MAX_SAVED];
        int count;

        History() {
            for (int i = 0; i < MAX_SAVED; i++) {
                saved[i] = new Feeder();
            }
        }

        void save(Feeder feeder) {
            if (count >= MAX_SAVED) {
                dropOldest();
            }
            saved[count].copyFrom(feeder);
            count++;
        }

        private void dropOldest() {
            Feeder oldest = saved[0];
            for (int i = 1; i < MAX_SAVED; i++) {
                saved[i - 1] = saved[i];
            }
            saved[MAX_SAVED - 1] = oldest;
            count = MAX_SAVED - 1;
        }

        void restore(Feeder feeder) {
            count--;
            feeder.copyFrom(saved[count]);
        }
    }
}
