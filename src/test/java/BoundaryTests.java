import java.util.List;

/**
 * The boundary cases that the document's sentences name, promise by promise: the ends of each range and the values
 * next to them, the empty and the full, wrap-arounds, and refused calls. The answers are worked out by hand.
 *
 * "Nothing else has changed" is tested with a twin, an object with the same past that is not asked the refused call:
 * in the same future, forwards and back through the saved states, both give the same answers, and their digests differ
 * by the one counter alone. No object is asked more than the 512 calls for which the document promises answers.
 */
public final class BoundaryTests {
    private static final int LEAST = Integer.MIN_VALUE;
    private static final int MOST = Integer.MAX_VALUE;
    private static final int OUT_OF_RANGE = -2;
    private static final int EXISTS = -3;
    private static final int MISSING = -4;
    private static final int FULL = -5;
    private static final int NOTHING_SAVED = -6;

    private static int checks = 0;
    private static int wrong = 0;

    public static void main(String[] args) {
        theStatesAreWhatTheyAreNamed();
        nodesAndSegments();
        devicesThatAreMissing();
        promise1();
        promise2();
        promise3();
        promise4();
        promise5();
        promise6();
        promise7();
        promise8();
        promise9();
        promise10();
        promise11();
        promise12();
        promise13();
        promise14();
        promise15();
        promise16();
        promise17();
        promises18To22();
        promise23();
        promise24();
        promise25();
        promise26();
        promise27();
        promise28();
        System.out.println("BoundaryTests: " + checks + " checks, " + wrong + " wrong");
        if (wrong != 0) {
            System.exit(1);
        }
    }

    // ---- how a call is looked at

    private interface Call {
        long on(FeederControl x);
    }

    private interface Maker {
        FeederControl make();
    }

    /** A way to make the same object again and again, and the number of values in its digest. */
    private record Start(Maker maker, int values) {
        FeederControl make() {
            return maker.make();
        }
    }

    private static final Start EMPTY = new Start(FeederControl::new, 35);
    private static final Start BUSY = new Start(BoundaryTests::busy, 35 + 3 * 5 + 2 * 4 + 2 * 2);
    private static final Start CALM = new Start(BoundaryTests::calm, 35 + 3 * 5 + 2 * 4 + 2 * 2);
    private static final Start CROWDED = new Start(BoundaryTests::crowded, 35 + 8 * 5 + 8 * 4 + 8 * 2);

    /** No call here changes the number of values in the digest of the states above. */
    private static final List<Call> FUTURE = List.of(
        x -> x.run(1), x -> x.setLoad(1, -500, 0), x -> x.run(1), x -> x.run(3), x -> x.run(20),
        x -> x.parseProfile(), x -> x.run(60), x -> x.setLoad(1, 500, 0), x -> x.run(400), x -> x.append('5'),
        x -> x.parseProfile(), x -> x.clearText(), x -> x.append(';'), x -> x.parseProfile(), x -> x.run(1440));
    private static final List<Call> PAST = List.of(
        x -> x.undo(), x -> x.undo(), x -> x.undo(), x -> x.undo(), x -> x.run(7), x -> x.run(500));

    private static void due(String what, long got, long want) {
        checks++;
        if (got != want) {
            wrong++;
            System.out.println(what + " answered " + got + ", due is " + want);
        }
    }

    private static void put(FeederControl x, String text) {
        x.clearText();
        for (int i = 0; i < text.length(); i++) {
            due("append to '" + text + "'", x.append(text.charAt(i)), i + 1);
        }
    }

    private static int parse(FeederControl x, String text) {
        put(x, text);
        return x.parseProfile();
    }

    private static int factor(FeederControl x, int hour) {
        int factor = x.setFactor(hour, 0);
        x.undo();
        return factor;
    }

    private static long hash(long... values) {
        long h = 2749;
        for (long v : values) {
            h = 31 * h + v;
        }
        return h;
    }

    /** By how much one more refused call with this code changes a digest of so many values. */
    private static long weight(int code, int values) {
        long w = 1;
        for (int behind = values - (OUT_OF_RANGE - code) - 1; behind > 0; behind--) {
            w *= 31;
        }
        return w;
    }

    /** One after the other, the calls give the same answers on both, and the digests stay as far apart as they are. */
    private static void sameAnswers(String what, FeederControl x, FeederControl twin, List<Call> calls, long gap) {
        due(what + ": the digest at first", x.digest() - twin.digest(), gap);
        for (int i = 0; i < calls.size(); i++) {
            due(what + ": call " + i + " after it", calls.get(i).on(x), calls.get(i).on(twin));
            due(what + ": the digest after call " + i, x.digest() - twin.digest(), gap);
        }
    }

    private static void changesOnly(String what, Start start, Call call, long want, long gap) {
        for (List<Call> calls : List.of(FUTURE, PAST)) {
            FeederControl x = start.make();
            due(what, call.on(x), want);
            sameAnswers(what, x, start.make(), calls, gap);
        }
    }

    /** The call returns the code, increments the code's counter, and changes nothing else. */
    private static void refused(String what, int code, Start start, Call call) {
        FeederControl x = start.make();
        int before = x.errorCount(code);
        due(what, call.on(x), code);
        due(what + ": the counter", x.errorCount(code), before + 1);
        changesOnly(what, start, call, code, weight(code, start.values()));
    }

    /** The call changes nothing, and no counter. */
    private static void changesNothing(String what, Start start, Call call, long want) {
        changesOnly(what, start, call, want, 0);
    }

    /** The call is accepted in the state without saved states, saves the state once, and undo brings it back whole. */
    private static void undoable(String what, long want, Call call) {
        FeederControl x = calm();
        long before = x.digest();
        due(what, call.on(x), want);
        due(what + ": one state saved", x.undo(), 0);
        due(what + ": undone", x.digest(), before);
        sameAnswers(what + ", undone", x, calm(), FUTURE, 0);
        FeederControl y = busy();
        due(what + ", with three saved", call.on(y), want);
        due(what + ": the oldest is dropped", y.undo(), 2);
    }

    // ---- the states

    /** Three nodes in the middle of things: a regulator one turn before its lock, timers that count, 3 saved states. */
    private static FeederControl busy() {
        FeederControl x = new FeederControl();
        x.undo();
        x.addNode(50, 0, 0, 0);
        x.addNode(10, 20, 100, 250);
        x.addNode(5, 5, -200, 0);
        x.addRegulator(1, 10000, 100, 0, 0);
        x.addRegulator(2, 10400, 10, 9, 0);
        x.addBank(2, 100, 2, 0, 150, 12);
        x.addBank(3, 50, 1, 22, 3, 0);
        x.addRegulator(1, 10000, 100, 0, 0);
        x.setTap(3, 0);
        x.setTap(4, 0);
        put(x, "5:40;7-9:120;");
        for (int load : new int[] {500, -500, 500}) {
            x.setLoad(1, load, 0);
            x.run(1);
        }
        return x;
    }

    /** The same without saved states: three of them that change nothing are put on top and taken back. */
    private static FeederControl calm() {
        FeederControl x = busy();
        for (int i = 0; i < 3; i++) {
            x.setSource(10000);
        }
        for (int i = 0; i < 3; i++) {
            x.undo();
        }
        return x;
    }

    /** The full one: 8 nodes with 8 regulators and 8 banks, a text of 120 bytes, 3 saved states. */
    private static FeederControl crowded() {
        FeederControl x = new FeederControl();
        for (int k = 1; k <= 8; k++) {
            x.addNode(6 * k, 3 * k, 40, 30);
            x.addRegulator(k, 10000, 10 * k, k, k % 2);
            x.addBank(k, 10 * k, k % 3, k, 2 * k + 5, 2);
        }
        put(x, ITEMS_29 + "2:9;");
        x.run(3);
        x.run(1);
        x.run(1);
        return x;
    }

    private static final String ITEMS_29 = "1:5;".repeat(29);

    private static FeederControl nodes(int count, int r, int x, int p, int q) {
        FeederControl feeder = new FeederControl();
        for (int k = 1; k <= count; k++) {
            due("addNode", feeder.addNode(r, x, p, q), k);
        }
        return feeder;
    }

    private static FeederControl oneNode(int r, int x, int p, int q) {
        return nodes(1, r, x, p, q);
    }

    /** The twins' futures say something only if something happens in them. */
    private static void theStatesAreWhatTheyAreNamed() {
        FeederControl x = busy();
        due("busy: not locked yet", x.isLocked(1), 0);
        due("busy: segment 2 counts", x.timer(2), 3);
        due("busy: steps", x.steps(1), 3);
        due("busy: bank by time", x.isOn(3), 1);
        for (int code = -6; code <= -2; code++) {
            due("busy: counter " + code, x.errorCount(code), code == FULL ? 0 : 1);
        }
        x.setLoad(1, -500, 0);
        x.run(1);
        due("busy: the next turn locks", x.isLocked(1), 1);
        x.run(12);
        due("busy: segment 2 steps", x.steps(2), 1);
        due("busy: bank by flow", x.isOn(2), 1);
        due("busy: the text is good", x.parseProfile(), 2);
        due("busy: three saved", x.undo(), 2);
        FeederControl y = calm();
        due("calm: nothing saved", y.undo(), NOTHING_SAVED);
        due("calm: the same minute", y.minute(), 3);
        FeederControl z = crowded();
        due("crowded: 8 nodes", z.addNode(0, 0, 0, 0), FULL);
        due("crowded: 120 bytes", z.append(0), FULL);
        due("crowded: things happen", z.run(1440) > 8 ? 1 : 0, 1);
        due("crowded: three saved", z.undo(), 2);
    }

    // ---- the methods that name a node or a segment

    private record NodeCase(String name, int lowest, NodeCall call) {
    }

    private interface NodeCall {
        long on(FeederControl x, int k);
    }

    private static final List<NodeCase> NODE_CASES = List.of(
        new NodeCase("P4 setLoad", 1, (x, k) -> x.setLoad(k, 0, 0)),
        new NodeCase("P9 addRegulator", 1, (x, k) -> x.addRegulator(k, 10000, 100, 0, 0)),
        new NodeCase("P10 setTap", 1, (x, k) -> x.setTap(k, 0)),
        new NodeCase("P11 addBank", 1, (x, k) -> x.addBank(k, 10, 0, 0, 0, 0)),
        new NodeCase("P12 switchBank", 1, (x, k) -> x.switchBank(k, 0)),
        new NodeCase("P15 voltage", 0, (x, k) -> x.voltage(k)),
        new NodeCase("P16 activeFlow", 1, (x, k) -> x.activeFlow(k)),
        new NodeCase("P17 reactiveFlow", 1, (x, k) -> x.reactiveFlow(k)),
        new NodeCase("P18 tap", 1, (x, k) -> x.tap(k)),
        new NodeCase("P19 timer", 1, (x, k) -> x.timer(k)),
        new NodeCase("P20 isLocked", 1, (x, k) -> x.isLocked(k)),
        new NodeCase("P21 steps", 1, (x, k) -> x.steps(k)),
        new NodeCase("P22 isOn", 1, (x, k) -> x.isOn(k)),
        new NodeCase("P24 planSteps", 1, (x, k) -> x.planSteps(k)),
        new NodeCase("P25 planTap", 1, (x, k) -> x.planTap(k, 0)));

    private static void nodesAndSegments() {
        for (NodeCase c : NODE_CASES) {
            for (int bad : new int[] {c.lowest() - 1, 1, LEAST, MOST}) {
                refused(c.name() + "(" + bad + ") without nodes", OUT_OF_RANGE, EMPTY, x -> c.call().on(x, bad));
            }
            for (int bad : new int[] {c.lowest() - 1, 4, LEAST, MOST}) {
                refused(c.name() + "(" + bad + ") of 3 nodes", OUT_OF_RANGE, BUSY, x -> c.call().on(x, bad));
            }
            for (int bad : new int[] {c.lowest() - 1, 9, LEAST, MOST}) {
                refused(c.name() + "(" + bad + ") of 8 nodes", OUT_OF_RANGE, CROWDED, x -> c.call().on(x, bad));
            }
            for (int good : new int[] {c.lowest(), 1, 8}) {
                due(c.name() + "(" + good + ") is there", c.call().on(crowded(), good) == OUT_OF_RANGE ? 1 : 0, 0);
            }
            due(c.name() + "(3) is the highest of 3", c.call().on(busy(), 3) == OUT_OF_RANGE ? 1 : 0, 0);
        }
    }

    private static void devicesThatAreMissing() {
        refused("P10 setTap without regulator", MISSING, BUSY, x -> x.setTap(3, 16));
        refused("P12 switchBank without bank", MISSING, BUSY, x -> x.switchBank(1, 1));
        refused("P18 tap without regulator", MISSING, BUSY, x -> x.tap(3));
        refused("P19 timer without regulator", MISSING, BUSY, x -> x.timer(3));
        refused("P20 isLocked without regulator", MISSING, BUSY, x -> x.isLocked(3));
        refused("P21 steps without regulator", MISSING, BUSY, x -> x.steps(3));
        refused("P22 isOn without bank", MISSING, BUSY, x -> x.isOn(1));
        refused("P24 planSteps without regulator", MISSING, BUSY, x -> x.planSteps(3));
        refused("P25 planTap without regulator", MISSING, BUSY, x -> x.planTap(3, 23));
        refused("P9 a second regulator", EXISTS, BUSY, x -> x.addRegulator(1, 9000, 500, 30, 1));
        refused("P9 a ninth regulator", EXISTS, CROWDED, x -> x.addRegulator(8, 11000, 10, 0, 0));
        refused("P11 a second bank", EXISTS, BUSY, x -> x.addBank(2, 300, 0, 0, 0, 0));
        refused("P11 a ninth bank", EXISTS, CROWDED, x -> x.addBank(8, 1, 2, 0, 1, 30));
    }

    // ---- feeder

    private static void promise1() {
        FeederControl x = new FeederControl();
        due("P1 the source's initial voltage", x.voltage(0), 10000);
        due("P1 a day without nodes", x.run(1440), 0);
        due("P1 its minutes", x.minute(), 1440);
        due("P1 its violations", x.violations(), 0);
        due("P1 undo", x.undo(), 0);
        due("P1 minute 0 again", x.minute(), 0);
        refused("P26 undo of a new object", NOTHING_SAVED, EMPTY, y -> y.undo());
    }

    private static void promise2() {
        undoable("P2 lowest", 10000, x -> x.setSource(9000));
        undoable("P2 highest", 10000, x -> x.setSource(11000));
        undoable("P2 no change is saved too", 10000, x -> x.setSource(10000));
        for (int bad : new int[] {8999, 11001, LEAST, MOST}) {
            refused("P2 " + bad, OUT_OF_RANGE, BUSY, x -> x.setSource(bad));
            refused("P2 " + bad + " without nodes", OUT_OF_RANGE, EMPTY, x -> x.setSource(bad));
        }
        FeederControl x = new FeederControl();
        x.setSource(9000);
        due("P2 the lowest voltage", x.voltage(0), 9000);
        due("P2 the previous voltage", x.setSource(11000), 9000);
        due("P2 the highest voltage", x.voltage(0), 11000);
    }

    private static final int[][] NODE_ENDS = {{0, 0, 0, 0}, {50, 0, 0, 0}, {0, 50, 0, 0}, {0, 0, -500, 0},
        {0, 0, 500, 0}, {0, 0, 0, -300}, {0, 0, 0, 300}, {50, 50, 500, 300}, {50, 50, -500, -300}};
    private static final int[][] NODE_OUTSIDE = {{-1, 0, 0, 0}, {51, 0, 0, 0}, {0, -1, 0, 0}, {0, 51, 0, 0},
        {0, 0, -501, 0}, {0, 0, 501, 0}, {0, 0, 0, -301}, {0, 0, 0, 301}, {LEAST, 0, 0, 0}, {0, MOST, 0, 0},
        {0, 0, LEAST, 0}, {0, 0, 0, MOST}};

    private static void promise3() {
        for (int[] a : NODE_ENDS) {
            undoable("P3 at the ends", 4, x -> x.addNode(a[0], a[1], a[2], a[3]));
            FeederControl x = new FeederControl();
            due("P3 the first node's number", x.addNode(a[0], a[1], a[2], a[3]), 1);
            due("P3 P", x.activeFlow(1), 10000 + a[2]);
            due("P3 Q", x.reactiveFlow(1), 10000 + a[3]);
            due("P3 r and x", x.voltage(1), 10000 - (a[0] * a[2] + a[1] * a[3]) / 100);
        }
        for (int[] a : NODE_OUTSIDE) {
            refused("P3 outside", OUT_OF_RANGE, BUSY, x -> x.addNode(a[0], a[1], a[2], a[3]));
            refused("P3 outside, with no node", OUT_OF_RANGE, EMPTY, x -> x.addNode(a[0], a[1], a[2], a[3]));
            refused("P3 outside comes before full", OUT_OF_RANGE, CROWDED, x -> x.addNode(a[0], a[1], a[2], a[3]));
        }
        refused("P3 a ninth node", FULL, CROWDED, x -> x.addNode(0, 0, 0, 0));
        refused("P3 a ninth node", FULL, CROWDED, x -> x.addNode(50, 50, -500, 300));
        promise3RoomAfterUndo();
    }

    private static void promise3RoomAfterUndo() {
        FeederControl x = nodes(8, 1, 1, 10, 10);
        due("P3 full", x.addNode(0, 0, 0, 0), FULL);
        due("P3 undo", x.undo(), 2);
        due("P3 room for the 8th", x.addNode(50, 0, 20, 0), 8);
        due("P3 the 8th as it was added now", x.activeFlow(8), 10020);
        due("P3 full again", x.addNode(0, 0, 0, 0), FULL);
        due("P3 the counter", x.errorCount(FULL), 2);
    }

    private static void promise4() {
        for (int[] load : new int[][] {{-500, 0}, {500, 0}, {0, -300}, {0, 300}, {0, 0}, {500, -300}}) {
            undoable("P4 at the ends", 1, x -> x.setLoad(1, load[0], load[1]));
            undoable("P4 at the ends, highest node", 1, x -> x.setLoad(3, load[0], load[1]));
            FeederControl x = nodes(8, 0, 0, 0, 0);
            due("P4 the 8th node", x.setLoad(8, load[0], load[1]), 1);
            due("P4 P", x.activeFlow(8), 10000 + load[0]);
            due("P4 Q", x.reactiveFlow(8), 10000 + load[1]);
        }
        undoable("P4 no change is saved too", 1, x -> x.setLoad(2, 100, 250));
        for (int[] load : new int[][] {{-501, 0}, {501, 0}, {0, -301}, {0, 301}, {LEAST, 0}, {MOST, 0}, {0, LEAST},
            {0, MOST}}) {
            refused("P4 outside", OUT_OF_RANGE, BUSY, x -> x.setLoad(1, load[0], load[1]));
            refused("P4 outside, highest node", OUT_OF_RANGE, BUSY, x -> x.setLoad(3, load[0], load[1]));
        }
    }

    private static void promise5() {
        for (int hour : new int[] {0, 23}) {
            undoable("P5 lowest", 100, x -> x.setFactor(hour, 0));
            undoable("P5 highest", 100, x -> x.setFactor(hour, 200));
            undoable("P5 no change is saved too", 100, x -> x.setFactor(hour, 100));
            for (int bad : new int[] {-1, 201, LEAST, MOST}) {
                refused("P5 factor " + bad, OUT_OF_RANGE, BUSY, x -> x.setFactor(hour, bad));
            }
        }
        for (int bad : new int[] {-1, 24, LEAST, MOST}) {
            refused("P5 hour " + bad, OUT_OF_RANGE, BUSY, x -> x.setFactor(bad, 100));
        }
        FeederControl x = new FeederControl();
        for (int hour = 0; hour < 24; hour++) {
            due("P5 initially", x.setFactor(hour, hour % 2 * 200), 100);
        }
        for (int hour = 0; hour < 24; hour++) {
            due("P5 as it was set", x.setFactor(hour, 100), hour % 2 * 200);
        }
        promise5TowardsZero();
        promise5PastTheDay();
    }

    private static void loadIs(int p, int q, int factor, int active, int reactive) {
        FeederControl x = oneNode(0, 0, p, q);
        x.setFactor(0, factor);
        due("P5 " + p + " at " + factor, x.activeFlow(1), 10000 + active);
        due("P5 " + q + " at " + factor, x.reactiveFlow(1), 10000 + reactive);
    }

    private static void promise5TowardsZero() {
        loadIs(1, -1, 99, 0, 0);
        loadIs(-1, 1, 99, 0, 0);
        loadIs(1, -1, 100, 1, -1);
        loadIs(1, -1, 199, 1, -1);
        loadIs(-1, 1, 199, -1, 1);
        loadIs(1, -1, 200, 2, -2);
        loadIs(-500, -300, 200, -1000, -600);
        loadIs(500, 300, 200, 1000, 600);
        loadIs(500, -300, 1, 5, -3);
        loadIs(-99, 101, 1, 0, 1);
        loadIs(500, -300, 0, 0, 0);
    }

    private static void promise5PastTheDay() {
        FeederControl x = oneNode(0, 0, 100, -100);
        x.setFactor(0, 50);
        x.setFactor(1, 60);
        x.setFactor(22, 70);
        x.setFactor(23, 150);
        int[][] factors = {{0, 50}, {59, 50}, {60, 60}, {119, 60}, {120, 100}, {1319, 100}, {1320, 70}, {1379, 70},
            {1380, 150}, {1439, 150}, {1440, 50}, {1499, 50}, {1500, 60}, {2819, 70}, {2820, 150}, {2879, 150}, {2880, 50}, {4319, 150},
            {4320, 50}};
        for (int[] f : factors) {
            int left = f[0] - x.minute();
            for (; left > 1440; left -= 1440) {
                x.run(1440);
            }
            x.run(left);
            due("P14 minute", x.minute(), f[0]);
            due("P5 P in minute " + f[0], x.activeFlow(1), 10000 + f[1]);
            due("P5 Q in minute " + f[0], x.reactiveFlow(1), 10000 - f[1]);
        }
    }

    // ---- the profile text

    private static void promise6() {
        for (int bad : new int[] {-1, 128, LEAST, MOST}) {
            refused("P6 " + bad, OUT_OF_RANGE, EMPTY, x -> x.append(bad));
            refused("P6 " + bad, OUT_OF_RANGE, BUSY, x -> x.append(bad));
            refused("P6 " + bad + " comes before full", OUT_OF_RANGE, CROWDED, x -> x.append(bad));
        }
        for (int good : new int[] {0, ';', 127}) {
            refused("P6 a 121st byte", FULL, CROWDED, x -> x.append(good));
            FeederControl x = new FeederControl();
            due("P6 the first byte", x.append(good), 1);
            due("P6 nothing is saved", x.undo(), NOTHING_SAVED);
            FeederControl y = new FeederControl();
            put(y, " ".repeat(119));
            due("P6 the 120th byte", y.append(good), 120);
            due("P6 full", y.append(good), FULL);
            due("P6 it stays 120", y.clearText(), 120);
        }
        FeederControl x = calm();
        x.append(';');
        due("P6 no state is saved", x.undo(), NOTHING_SAVED);
    }

    private static void promise7() {
        FeederControl x = crowded();
        due("P7 120 bytes", x.clearText(), 120);
        due("P7 none", x.clearText(), 0);
        due("P7 room again", x.append('6'), 1);
        due("P7 nothing of the old text stays", x.parseProfile(), -11);
        due("P7 one byte", x.clearText(), 1);
        changesNothing("P7 an empty text", EMPTY, y -> y.clearText(), 0);
        FeederControl z = calm();
        z.clearText();
        due("P7 no state is saved", z.undo(), NOTHING_SAVED);
        due("P7 undo brings no text back", z.clearText(), 0);
        FeederControl w = busy();
        w.setSource(9000);
        w.clearText();
        w.undo();
        due("P7 the text is not in the saved state", w.clearText(), 0);
    }

    private static void profile(String text, int items, int... hoursAndFactors) {
        FeederControl x = new FeederControl();
        due("P8 '" + text + "'", parse(x, text), items);
        for (int i = 0; i < hoursAndFactors.length; i += 2) {
            due("P8 '" + text + "' hour " + hoursAndFactors[i], factor(x, hoursAndFactors[i]), hoursAndFactors[i + 1]);
        }
        due("P8 '" + text + "' saved once", x.undo(), 0);
        for (int i = 0; i < hoursAndFactors.length; i += 2) {
            due("P8 '" + text + "' undone", factor(x, hoursAndFactors[i]), 100);
        }
    }

    private static void syntaxError(String text, int position) {
        FeederControl x = calm();
        put(x, text);
        long before = x.digest();
        due("P8 '" + text + "'", x.parseProfile(), -10 - position);
        due("P8 '" + text + "' changes nothing and counts no error", x.digest(), before);
        due("P8 '" + text + "' saves nothing", x.undo(), NOTHING_SAVED);
    }

    private static void promise8() {
        undoable("P8 two items", 2, x -> x.parseProfile());
        undoable("P8 an empty text", 0, x -> {
            x.clearText();
            long items = x.parseProfile();
            put(x, "5:40;7-9:120;");
            return items;
        });
        changesNothing("P8 an error", BUSY, x -> {
            x.append('6');
            long answer = x.parseProfile();
            put(x, "5:40;7-9:120;");
            return answer;
        }, -24);
        promise8EndsOfRanges();
        promise8LongTexts();
        promise8Spaces();
        promise8FirstWrongByte();
        promise8NumbersOutOfRange();
        promise8TooEarly();
    }

    private static void promise8EndsOfRanges() {
        profile("", 0, 0, 100, 23, 100);
        profile("0:0;", 1, 0, 0, 1, 100, 23, 100);
        profile("23:200;", 1, 0, 100, 22, 100, 23, 200);
        profile("0-0:1;", 1, 0, 1, 1, 100);
        profile("23-23:1;", 1, 22, 100, 23, 1);
        profile("0-23:0;", 1, 0, 0, 1, 0, 11, 0, 22, 0, 23, 0);
        profile("7-9:50;", 1, 6, 100, 7, 50, 8, 50, 9, 50, 10, 100);
        profile("7-8:50;", 1, 6, 100, 7, 50, 8, 50, 9, 100);
        profile("000-023:000;", 1, 0, 0, 23, 0);
        profile("5:001;06:02;007:3;", 3, 5, 1, 6, 2, 7, 3);
        profile("5:1;5:2;5:3;", 3, 5, 3);
        profile("0-23:1;5:2;5-6:3;", 3, 4, 1, 5, 3, 6, 3, 7, 1);
        profile("5:40;5:100;", 2, 5, 100);
    }

    private static void promise8LongTexts() {
        profile(" ".repeat(120), 0, 0, 100);
        profile("1:5;".repeat(30), 30, 1, 5);
        profile(" ".repeat(116) + "2:9;", 1, 2, 9);
        profile("2:9;" + " ".repeat(116), 1, 2, 9);
        syntaxError(ITEMS_29 + "2:9x", 119);
        syntaxError(ITEMS_29 + "2:91", 120);
        syntaxError(ITEMS_29 + "23:9", 120);
        syntaxError(" ".repeat(119) + "5", 120);
        syntaxError(" ".repeat(119) + ";", 119);
        syntaxError("x" + " ".repeat(119), 0);
    }

    private static void promise8Spaces() {
        profile(" 5:40;", 1, 5, 40);
        profile("5 :40;", 1, 5, 40);
        profile("5: 40;", 1, 5, 40);
        profile("5:40 ;", 1, 5, 40);
        profile("5:40; ", 1, 5, 40);
        profile("5 -6:40;", 1, 5, 40, 6, 40);
        profile("5- 6:40;", 1, 5, 40, 6, 40);
        profile("5-6 :40;", 1, 5, 40, 6, 40);
        profile("   5   -   6   :   40   ;   ", 1, 5, 40, 6, 40);
        syntaxError("2 3:40;", 2);
        syntaxError("1-2 3:40;", 4);
        syntaxError("5:4 0;", 4);
        syntaxError("00 5:40;", 3);
        syntaxError("5:040 0;", 6);
        syntaxError("5\u001f:40;", 1);
        syntaxError("5!:40;", 1);
        syntaxError("\u0000", 0);
        syntaxError("\t5:40;", 0);
    }

    private static void promise8FirstWrongByte() {
        // each place of an item, with each sign that cannot stand there
        String[] starts = {"", "5", "5-", "5-6", "5:", "5-6:", "5:4", "5-6:4", "5:4;"};
        String[] wrongSigns = {":-;", ";", ":-;", "-;", ":-;", ":-;", ":-", ":-", ":-;"};
        for (int i = 0; i < starts.length; i++) {
            for (char sign : (wrongSigns[i] + "/xX,\u0000\u001f!\u007f").toCharArray()) {
                syntaxError(starts[i] + sign, starts[i].length());
                syntaxError(" " + starts[i] + " " + sign, starts[i].length() + 2);
                syntaxError(starts[i] + sign + "1:2;", starts[i].length());
            }
        }
        syntaxError("5:40;6:x;24:1;", 7);
    }

    private static void promise8NumbersOutOfRange() {
        syntaxError("24:1;", 0);
        syntaxError("024:1;", 0);
        syntaxError("999:1;", 0);
        syntaxError("  24-25:1;", 2);
        syntaxError("0-24:1;", 2);
        syntaxError("23-24:1;", 3);
        syntaxError("0- 024:1;", 3);
        syntaxError("5-4:1;", 2);
        syntaxError("23-0:1;", 3);
        syntaxError("1-000:1;", 2);
        syntaxError("22 -  21 : 1;", 6);
        syntaxError("5:201;", 2);
        syntaxError("5: 999;", 3);
        syntaxError("5-6:201;", 4);
        syntaxError("5:40;5:201;", 7);
        syntaxError("0000:1;", 3);
        syntaxError("2400:1;", 3);
        syntaxError("00023:1;", 3);
        syntaxError("5-0006:1;", 5);
        syntaxError("5-0004:1;", 5);
        syntaxError("5:0001;", 5);
        syntaxError("5:2010;", 5);
        syntaxError("5: 99999;", 6);
        profile("023:200;", 1, 23, 200);
        profile("5-005:020;", 1, 4, 100, 5, 20, 6, 100);
    }

    private static void promise8TooEarly() {
        for (String text : new String[] {"5", "23", "023", "5-", "5-6", "5-23", "5:", "5-6:", "5:4", "5:40", "5:200"}) {
            syntaxError(text, text.length());
            syntaxError(text + "  ", text.length() + 2);
            syntaxError("  " + text, text.length() + 2);
            syntaxError("1:2;" + text, text.length() + 4);
        }
    }

    // ---- devices

    private static void promise9() {
        int[][] ends = {{9000, 100, 0, 0}, {11000, 100, 0, 0}, {10000, 10, 0, 0}, {10000, 500, 0, 0},
            {10000, 100, 0, 1}, {10000, 100, 30, 0}, {9000, 10, 30, 1}, {11000, 500, 30, 1}};
        for (int[] a : ends) {
            undoable("P9 at the ends", 1, x -> x.addRegulator(3, a[0], a[1], a[2], a[3]));
        }
        int[][] outside = {{8999, 100, 0, 0}, {11001, 100, 0, 0}, {10000, 9, 0, 0}, {10000, 501, 0, 0},
            {10000, 100, -1, 0}, {10000, 100, 31, 0}, {10000, 100, 0, -1}, {10000, 100, 0, 2}, {LEAST, 100, 0, 0},
            {10000, MOST, 0, 0}, {10000, 100, LEAST, 0}, {10000, 100, 0, MOST}};
        for (int[] a : outside) {
            refused("P9 outside", OUT_OF_RANGE, BUSY, x -> x.addRegulator(3, a[0], a[1], a[2], a[3]));
            refused("P9 outside comes before exists", OUT_OF_RANGE, BUSY,
                x -> x.addRegulator(1, a[0], a[1], a[2], a[3]));
        }
        FeederControl x = nodes(8, 0, 0, 0, 0);
        for (int k = 8; k >= 1; k--) {
            due("P9 one on each segment", x.addRegulator(k, 10000, 100, 0, 0), 1);
            due("P9 its tap", x.tap(k), 100);
            due("P9 its timer", x.timer(k), 0);
        }
        promise9EdgesOfTheBand();
    }

    /** What a regulator with this center and band does at this voltage, which is between 8700 and 11300. */
    private static void movesAt(int center, int band, int voltage, int move) {
        FeederControl x = oneNode(50, 50, 0, 0);
        x.addRegulator(1, center, band, 0, 0);
        int source = Math.max(9000, Math.min(11000, voltage));
        x.setSource(source);
        x.setLoad(1, source - voltage, source - voltage);
        due("P9 voltage", x.voltage(1), voltage);
        due("P9 " + center + ", " + band + " at " + voltage, x.run(1), Math.abs(move));
        due("P9 tap", x.tap(1), 100 + move);
    }

    private static void promise9EdgesOfTheBand() {
        for (int[] setting : new int[][] {{9000, 10}, {9000, 200}, {10000, 10}, {10000, 500}, {11000, 10}, {11000, 299},
            {10000, 11}, {10000, 499}}) {
            int low = setting[0] - setting[1];
            int high = setting[0] + setting[1];
            movesAt(setting[0], setting[1], low - 1, 1);
            movesAt(setting[0], setting[1], low, 0);
            movesAt(setting[0], setting[1], low + 1, 0);
            movesAt(setting[0], setting[1], high - 1, 0);
            movesAt(setting[0], setting[1], high, 0);
            movesAt(setting[0], setting[1], high + 1, -1);
        }
        // the highest edge is 11500: a rise of 50 * 1000 / 100, and one more by the reactive load
        FeederControl x = oneNode(50, 50, -500, 0);
        x.setSource(11000);
        x.setFactor(0, 200);
        x.addRegulator(1, 11000, 500, 0, 0);
        due("P9 voltage", x.voltage(1), 11500);
        due("P9 at the edge", x.run(1), 0);
        x.setLoad(1, -500, -1);
        due("P9 voltage", x.voltage(1), 11501);
        due("P9 outside the edge", x.run(1), 1);
        due("P9 lowered", x.tap(1), 99);
        // the lowest edge is 8500: 9066 * 150 / 160 = 8499.4, 9067 * 150 / 160 = 8500.3
        FeederControl y = oneNode(0, 0, 0, 0);
        y.addRegulator(1, 9000, 500, 0, 0);
        y.setTap(1, -10);
        y.setSource(9066);
        due("P9 voltage", y.voltage(1), 8499);
        due("P9 below the lowest edge", y.run(1), 1);
        y.setTap(1, -10);
        y.setSource(9067);
        due("P9 voltage", y.voltage(1), 8500);
        due("P9 at the lowest edge", y.run(1), 0);
    }

    private static void promise10() {
        for (int tap : new int[] {-16, -15, 0, 15, 16}) {
            undoable("P10 tap " + tap, 101, x -> x.setTap(1, tap));
            undoable("P10 the other segment, tap " + tap, 100, x -> x.setTap(2, tap));
            FeederControl x = oneNode(0, 0, 0, 0);
            x.addRegulator(1, 10000, 100, 0, 0);
            x.setTap(1, tap);
            due("P10 tap", x.tap(1), 100 + tap);
            due("P10 the previous tap", x.setTap(1, 0), 100 + tap);
        }
        undoable("P10 no change is saved too", 101, x -> x.setTap(1, 1));
        for (int bad : new int[] {-17, 17, LEAST, MOST}) {
            refused("P10 tap " + bad, OUT_OF_RANGE, BUSY, x -> x.setTap(1, bad));
            refused("P10 tap " + bad + " comes before missing", OUT_OF_RANGE, BUSY, x -> x.setTap(3, bad));
        }
        promise10KeepsTheDirection();
        promise10KeepsTheLock();
    }

    private static void promise10KeepsTheDirection() {
        // up, down (one turn), the tap put up by hand, up (two turns), the tap put down by hand, down (three turns)
        FeederControl x = oneNode(50, 0, 500, 0);
        x.addRegulator(1, 10000, 100, 0, 0);
        due("P10 up", x.run(1), 1);
        x.setLoad(1, -500, 0);
        due("P10 down", x.run(1), 1);
        x.setTap(1, 1);
        x.setLoad(1, 500, 0);
        due("P10 up after a tap by hand", x.run(1), 1);
        due("P10 two turns", x.isLocked(1), 0);
        x.setTap(1, 0);
        x.setLoad(1, -500, 0);
        due("P10 down after a tap by hand", x.run(1), 1);
        due("P10 the hand changed no direction: the third turn", x.isLocked(1), 1);
        due("P10 steps", x.steps(1), 4);
        // up and up with the tap put down in between is no turn
        FeederControl y = oneNode(50, 0, 500, 0);
        y.addRegulator(1, 10000, 100, 0, 0);
        for (int i = 0; i < 6; i++) {
            due("P10 up", y.run(1), 1);
            y.setTap(1, 0);
        }
        due("P10 no turn by hand", y.isLocked(1), 0);
    }

    private static void promise10KeepsTheLock() {
        FeederControl x = busy();
        x.setLoad(1, -500, 0);
        x.run(1);
        due("P10 locked", x.isLocked(1), 1);
        due("P10 by hand", x.setTap(1, -16), 100);
        due("P10 still locked", x.isLocked(1), 1);
        due("P10 the tap of a locked one", x.tap(1), 84);
        x.run(1);
        due("P10 it wants nothing", x.timer(1), 0);
        due("P10 it stays", x.tap(1), 84);
        due("P10 steps", x.steps(1), 4);
    }

    private static void promise11() {
        int[][] ends = {{1, 0, 0, 0, 0}, {300, 0, 0, 0, 30}, {10, 0, LEAST, MOST, 0}, {10, 0, 5, 5, 0},
            {10, 1, 0, 0, 0}, {10, 1, 23, 23, 30}, {10, 1, 0, 23, 0}, {10, 1, 23, 0, 0}, {10, 2, -3000, 3000, 0},
            {10, 2, -3000, -2999, 30}, {10, 2, 2999, 3000, 0}, {1, 2, -1, 0, 0}, {300, 2, 0, 1, 30}};
        for (int[] a : ends) {
            undoable("P11 at the ends", 1, x -> x.addBank(1, a[0], a[1], a[2], a[3], a[4]));
            FeederControl x = oneNode(0, 0, 0, 0);
            due("P11 at the ends", x.addBank(1, a[0], a[1], a[2], a[3], a[4]), 1);
            due("P11 off at first", x.isOn(1), 0);
            due("P11 no supply", x.reactiveFlow(1), 10000);
            x.switchBank(1, 1);
            due("P11 its size", x.reactiveFlow(1), 10000 - a[0]);
        }
        int[][] outside = {{0, 0, 0, 0, 0}, {301, 0, 0, 0, 0}, {10, -1, 0, 1, 0}, {10, 3, 0, 1, 0}, {10, 0, 0, 0, -1},
            {10, 0, 0, 0, 31}, {10, 1, -1, 5, 0}, {10, 1, 24, 5, 0}, {10, 1, 5, -1, 0}, {10, 1, 5, 24, 0},
            {10, 1, 5, 6, -1}, {10, 1, 5, 6, 31}, {10, 2, -3001, 0, 0}, {10, 2, 3001, 0, 0}, {10, 2, 0, -3001, 0},
            {10, 2, 0, 3001, 0}, {10, 2, -3001, 3001, 0}, {10, 2, 5, 5, 0}, {10, 2, 6, 5, 0}, {10, 2, -3000, -3000, 0},
            {10, 2, 3000, 3000, 0}, {10, 2, 3000, -3000, 0}, {10, 2, 0, 1, -1}, {10, 2, 0, 1, 31},
            {LEAST, 0, 0, 0, 0}, {10, MOST, 0, 0, 0}, {10, 1, LEAST, 0, 0}, {10, 2, LEAST, MOST, 0},
            {10, 0, 0, 0, MOST}};
        for (int[] a : outside) {
            refused("P11 outside", OUT_OF_RANGE, BUSY, x -> x.addBank(1, a[0], a[1], a[2], a[3], a[4]));
            refused("P11 outside comes before exists", OUT_OF_RANGE, BUSY,
                x -> x.addBank(2, a[0], a[1], a[2], a[3], a[4]));
        }
        FeederControl x = nodes(8, 0, 0, 0, 0);
        for (int k = 8; k >= 1; k--) {
            due("P11 one at each node", x.addBank(k, 300, 0, 0, 0, 0), 1);
        }
    }

    private static void promise12() {
        undoable("P12 on", 0, x -> x.switchBank(2, 1));
        undoable("P12 off, as it is", 0, x -> x.switchBank(2, 0));
        undoable("P12 by time, off", 1, x -> x.switchBank(3, 0));
        undoable("P12 by time, on, as it is", 1, x -> x.switchBank(3, 1));
        for (int bad : new int[] {-1, 2, LEAST, MOST}) {
            refused("P12 on " + bad, OUT_OF_RANGE, BUSY, x -> x.switchBank(2, bad));
            refused("P12 on " + bad + " comes before missing", OUT_OF_RANGE, BUSY, x -> x.switchBank(1, bad));
        }
        FeederControl x = crowded();
        for (int k = 1; k <= 8; k++) {
            int was = x.isOn(k);
            due("P12 whatever the mode, on", x.switchBank(k, 1), was);
            due("P12 whatever the mode, off", x.switchBank(k, 0), 1);
            due("P12 whatever the mode", x.isOn(k), 0);
        }
        // the timer stays when the bank is switched to what it is waiting for, and then has nothing to wait for
        FeederControl y = oneNode(0, 0, 0, 200);
        y.addBank(1, 50, 2, 0, 120, 30);
        y.run(30);
        y.switchBank(1, 1);
        due("P12 the timer stays at 30", y.digest(), digestOf(y, 0, new int[] {30}, 3));
        y.run(1);
        due("P12 it wants nothing now", y.digest(), digestOf(y, 0, new int[] {0}, 3));
    }

    // ---- running

    private static void promise13() {
        undoable("P13 no minute", 0, x -> x.run(0));
        undoable("P13 one minute", 1, x -> x.run(1));
        for (int bad : new int[] {-1, 1441, LEAST, MOST}) {
            refused("P13 " + bad, OUT_OF_RANGE, BUSY, x -> x.run(bad));
            refused("P13 " + bad + " without nodes", OUT_OF_RANGE, EMPTY, x -> x.run(bad));
        }
        promise13NoMinute();
        promise13ADayInParts();
        promise13BankHours();
        promise13LimitsOfFlow();
        promise13BankDelays();
        promise13BanksWait();
        promise13BankByTimeComesFirst();
        promise13EndsOfTheTaps();
        promise13RegulatorDelays();
        promise13Reverse();
        promise13Turns();
        promise13TheHourReleases();
        promise13TheLowestSegment();
        promise13WishesOverTheHour();
        promise13WhatIsRemembered();
    }

    private static void promise13NoMinute() {
        FeederControl x = oneNode(50, 0, 500, 0);
        x.setSource(9000);
        x.addRegulator(1, 10000, 100, 9, 0);
        x.addBank(1, 10, 1, 0, 23, 0);
        due("P13 no minute", x.run(0), 0);
        due("P13 no bank is switched by time", x.isOn(1), 0);
        due("P13 no violation", x.violations(), 0);
        due("P13 no timer counts", x.timer(1), 0);
        due("P13 one minute", x.run(1), 0);
        due("P13 the bank is switched", x.isOn(1), 1);
        due("P13 a violation", x.violations(), 1);
        due("P13 the timer", x.timer(1), 1);
        due("P13 no minute", x.run(0), 0);
        due("P13 the timer stays", x.timer(1), 1);
        due("P13 the minutes stay", x.minute(), 1);
    }

    /** The longest run is as many runs of an hour, and an hour as many runs of a minute with runs of no minute between. */
    private static void promise13ADayInParts() {
        for (Start start : List.of(BUSY, CROWDED)) {
            FeederControl whole = start.make();
            FeederControl parts = start.make();
            long moves = 0;
            for (int hour = 0; hour < 24; hour++) {
                moves += parts.run(60);
            }
            due("P13 a day", whole.run(1440), moves);
            due("P13 a day in hours", parts.digest(), whole.digest());
            moves = 0;
            for (int minute = 0; minute < 60; minute++) {
                moves += parts.run(1);
                moves += parts.run(0);
            }
            due("P13 an hour", whole.run(60), moves);
            due("P13 an hour in minutes", parts.digest(), whole.digest());
        }
    }

    private static boolean[] hoursOn(int a, int b) {
        boolean[] on = new boolean[24];
        for (int h = a; h < (a < b ? b : 24); h++) {
            on[h] = true;
        }
        for (int h = 0; a >= b && h < b; h++) {
            on[h] = true;
        }
        return on;
    }

    /** Each pair of hours, those where the first is not less than the second among them, over the end of the day. */
    private static void promise13BankHours() {
        for (int a = 0; a < 24; a++) {
            for (int b = 0; b < 24; b++) {
                boolean[] on = hoursOn(a, b);
                FeederControl x = oneNode(0, 0, 0, 0);
                x.addBank(1, 10, 1, a, b, 30);
                int moves = x.run(1);
                due("P13 bank " + a + " to " + b + " in minute 1", x.isOn(1), on[0] ? 1 : 0);
                for (int hour = 0; hour < 25; hour++) {
                    moves += x.run(60 * hour + 59 - x.minute());
                    due("P13 bank " + a + " to " + b + ", last of hour " + hour, x.isOn(1), on[hour % 24] ? 1 : 0);
                    moves += x.run(1);
                    due("P13 bank " + a + " to " + b + " behind " + hour, x.isOn(1), on[(hour + 1) % 24] ? 1 : 0);
                }
                due("P13 what time switches is not counted", moves, 0);
            }
        }
    }

    private static void promise13LimitsOfFlow() {
        FeederControl x = nodes(8, 0, 0, 0, 300);
        x.setFactor(0, 150);
        x.setLoad(7, 0, 200);
        x.setLoad(8, 0, 0);
        x.addBank(1, 300, 2, -3000, 3000, 0);
        due("P13 6 * 450 + 300", x.reactiveFlow(1), 13000);
        due("P13 the highest limit itself", x.run(2), 0);
        x.setLoad(8, 0, 1);
        due("P13 above the highest limit", x.run(1), 1);
        due("P13 on", x.isOn(1), 1);
        due("P13 3001 - 300", x.reactiveFlow(1), 12701);
        for (int k = 1; k <= 8; k++) {
            x.setLoad(k, 0, k <= 6 ? -300 : 0);
        }
        due("P13 -6 * 450 - 300", x.reactiveFlow(1), 7000);
        due("P13 the lowest limit itself", x.run(2), 0);
        x.setLoad(8, 0, -1);
        due("P13 below the lowest limit", x.run(1), 1);
        due("P13 off", x.isOn(1), 0);
        // on it wants off alone, off it wants on alone: between the limits and beyond the other one nothing happens
        FeederControl y = oneNode(0, 0, 0, 11);
        y.addBank(1, 10, 2, -1, 10, 0);
        due("P13 11 is more than 10", y.run(1), 1);
        y.setLoad(1, 0, 300);
        due("P13 on, it does not look at the upper limit", y.run(3), 0);
        y.setLoad(1, 0, 9);
        due("P13 -1 is not less than -1", y.run(3), 0);
        y.setLoad(1, 0, 8);
        due("P13 -2 is", y.run(1), 1);
        y.setLoad(1, 0, -300);
        due("P13 off, it does not look at the lower limit", y.run(3), 0);
        y.setLoad(1, 0, 10);
        due("P13 10 is not more than 10", y.run(3), 0);
    }

    /** Off, the flow is above the upper limit; on, it is below the lower one: the bank never rests. */
    private static FeederControl restlessBank(int delay) {
        FeederControl x = oneNode(0, 0, 0, 200);
        x.addBank(1, 100, 2, 150, 160, delay);
        return x;
    }

    private static void promise13BankDelays() {
        due("P13 no delay", restlessBank(0).run(10), 10);
        due("P13 a delay of 1", restlessBank(1).run(10), 5);
        FeederControl x = restlessBank(30);
        due("P13 the longest delay", x.run(30), 0);
        due("P13 the timer is not yet greater", x.digest(), digestOf(x, 0, new int[] {30}, 3));
        due("P13 the 31st minute", x.run(1), 1);
        due("P13 on, the timer is 0", x.digest(), digestOf(x, 0, new int[] {0}, 3));
        due("P13 the longest delay", x.run(30), 0);
        due("P13 still on", x.isOn(1), 1);
        due("P13 the 31st minute", x.run(1), 1);
        due("P13 off", x.isOn(1), 0);
        x.run(29);
        x.setLoad(1, 0, 160);
        x.run(1);
        due("P13 a minute without wish", x.digest(), digestOf(x, 0, new int[] {0}, 3));
        x.setLoad(1, 0, 200);
        due("P13 it begins anew", x.run(30), 0);
        due("P13 the 31st minute", x.run(1), 1);
    }

    private static void promise13BanksWait() {
        FeederControl x = nodes(5, 0, 0, 0, 100);
        int[] timers = new int[5];
        for (int k = 5; k >= 1; k--) {
            x.addBank(k, 50, 2, -1000, 10, 0);
        }
        for (int minute = 1; minute <= 5; minute++) {
            due("P13 one bank a minute", x.run(1), 1);
            for (int k = 1; k <= 5; k++) {
                due("P13 the lowest node first", x.isOn(k), k <= minute ? 1 : 0);
                timers[k - 1] = k <= minute ? 0 : minute;
            }
            due("P13 the others wait with their timers", x.digest(), digestOf(x, 0, timers, 3));
        }
        due("P13 no more", x.run(1), 0);
        FeederControl y = nodes(2, 0, 0, 0, 100);
        y.addBank(1, 50, 2, -1000, 10, 0);
        y.addBank(2, 50, 2, -1000, 90, 0);
        y.run(1);
        due("P13 the second waits", y.digest(), digestOf(y, 0, new int[] {0, 1}, 3));
        y.setLoad(2, 0, 90);
        due("P13 it wants no more", y.run(1), 0);
        due("P13 it waits no more", y.digest(), digestOf(y, 0, new int[] {0, 0}, 3));
        FeederControl z = nodes(2, 0, 0, 0, 100);
        z.addBank(1, 50, 2, -1000, 10, 4);
        z.addBank(2, 50, 2, -1000, 90, 0);
        due("P13 the lower node is not due", z.run(1), 1);
        due("P13 the higher one is switched", z.digest(), digestOf(z, 0, new int[] {1, 0}, 3));
    }

    private static void promise13BankByTimeComesFirst() {
        FeederControl x = oneNode(0, 50, 0, 200);
        x.run(57);
        x.addRegulator(1, 10000, 50, 5, 0);
        x.addBank(1, 200, 1, 1, 2, 0);
        x.run(2);
        due("P13 minute 59: 9900 is below the band", x.timer(1), 2);
        x.run(1);
        due("P13 minute 60: the bank is on before the voltages", x.timer(1), 0);
        FeederControl y = nodes(2, 0, 0, 0, 100);
        y.run(50);
        y.addBank(1, 10, 2, 0, 120, 30);
        y.addBank(2, 100, 1, 1, 2, 0);
        y.run(9);
        due("P13 minute 59: 200 is above the limit", y.digest(), digestOf(y, 0, new int[] {9, 0}, 3));
        y.run(1);
        due("P13 minute 60: the bank is on before the flows", y.digest(), digestOf(y, 0, new int[] {0, 0}, 3));
    }

    private static FeederControl regulated(int source, int center, int delay, int tap) {
        FeederControl x = oneNode(0, 0, 0, 0);
        x.setSource(source);
        x.addRegulator(1, center, 10, delay, 0);
        x.setTap(1, tap);
        return x;
    }

    private static void promise13EndsOfTheTaps() {
        FeederControl up = regulated(9000, 11000, 0, 14);
        due("P13 15 and 16", up.run(5), 2);
        due("P13 the highest", up.tap(1), 116);
        due("P13 there it wants nothing", up.timer(1), 0);
        FeederControl down = regulated(11000, 9000, 0, -14);
        due("P13 -15 and -16", down.run(5), 2);
        due("P13 the lowest", down.tap(1), 84);
        due("P13 there it wants nothing", down.timer(1), 0);
        FeederControl fromTop = regulated(11000, 9000, 0, 16);
        due("P13 from the highest down", fromTop.run(1), 1);
        due("P13 from the highest down", fromTop.tap(1), 115);
        FeederControl fromBottom = regulated(9000, 11000, 0, -16);
        due("P13 from the lowest up", fromBottom.run(1), 1);
        due("P13 from the lowest up", fromBottom.tap(1), 85);
        FeederControl byHand = regulated(9000, 11000, 9, 15);
        byHand.run(4);
        byHand.setTap(1, 16);
        due("P13 put to the highest, the timer stays", byHand.timer(1), 4);
        byHand.run(1);
        due("P13 then it wants nothing", byHand.timer(1), 0);
    }

    private static void promise13RegulatorDelays() {
        due("P13 no delay", regulated(9000, 11000, 0, -16).run(10), 10);
        due("P13 a delay of 1", regulated(9000, 11000, 1, -16).run(10), 5);
        FeederControl x = regulated(9000, 11000, 30, 0);
        due("P13 the longest delay", x.run(30), 0);
        due("P13 its timer", x.timer(1), 30);
        due("P13 the 31st minute", x.run(1), 1);
        due("P13 its timer", x.timer(1), 0);
        due("P13 the longest delay again", x.run(30), 0);
        due("P13 the 31st minute", x.run(1), 1);
        FeederControl y = oneNode(50, 0, 400, 0);
        y.addRegulator(1, 10000, 10, 3, 0);
        y.run(3);
        due("P13 one minute before it is due", y.timer(1), 3);
        y.setLoad(1, -400, 0);
        due("P13 the opposite wish begins at 1", y.run(1), 0);
        due("P13 the opposite wish begins at 1", y.timer(1), 1);
        due("P13 it waits as long", y.run(2), 0);
        due("P13 it waits as long", y.timer(1), 3);
        due("P13 and is due in the minute behind", y.run(1), 1);
        due("P13 down", y.tap(1), 99);
    }

    private static void promise13Reverse() {
        for (int p = -1; p <= 1; p++) {
            for (int reverse = 0; reverse <= 1; reverse++) {
                FeederControl x = oneNode(0, 0, p, 0);
                x.addRegulator(1, 11000, 10, 0, reverse);
                due("P13 reverse " + reverse + ", P " + p, x.run(1), reverse == 1 && p < 0 ? 0 : 1);
            }
        }
        FeederControl rounded = oneNode(0, 0, -1, 0);
        rounded.setFactor(0, 99);
        rounded.addRegulator(1, 11000, 10, 0, 1);
        due("P13 -0.99 is a flow of 0", rounded.run(1), 1);
        FeederControl two = new FeederControl();
        two.addNode(0, 0, -10, 0);
        two.addNode(0, 0, 5, 0);
        two.addRegulator(1, 11000, 10, 0, 1);
        two.addRegulator(2, 11000, 10, 0, 1);
        due("P13 each looks at its own segment", two.run(1), 1);
        due("P13 -5 on segment 1", two.timer(1), 0);
        due("P13 5 on segment 2", two.tap(2), 101);
    }

    /** Loads that let the regulator go up and down in turn, beginning with up; the answer is the number of steps. */
    private static int swing(FeederControl x, int times) {
        int moved = 0;
        for (int i = 0; i < times; i++) {
            x.setLoad(1, i % 2 == 0 ? 500 : -500, 0);
            moved += x.run(1);
        }
        return moved;
    }

    private static FeederControl hunting(int minutes) {
        FeederControl x = oneNode(50, 0, 0, 0);
        x.addRegulator(1, 10000, 100, 0, 0);
        due("P13 nothing to do", x.run(minutes), 0);
        return x;
    }

    private static void promise13Turns() {
        for (int turns = 0; turns <= 3; turns++) {
            FeederControl x = hunting(0);
            due("P13 steps", swing(x, turns + 1), turns + 1);
            due("P13 locked after " + turns + " turns", x.isLocked(1), turns == 3 ? 1 : 0);
            due("P13 the step is made", x.tap(1), turns % 2 == 0 ? 101 : 100);
            due("P13 the next wish after " + turns + " turns", swing(x, 1), turns == 3 ? 0 : 1);
        }
    }

    private static void promise13TheHourReleases() {
        FeederControl x = hunting(56);
        due("P13 up in 57, turns in 58, 59 and 60", swing(x, 4), 4);
        due("P13 minute", x.minute(), 60);
        due("P13 the turn in 60 is the first of the hour", x.isLocked(1), 0);
        due("P13 the second", swing(x, 1), 1);
        due("P13 the second", x.isLocked(1), 0);
        x.setLoad(1, -500, 0);
        due("P13 the third, in minute 62", x.run(1), 1);
        due("P13 locked", x.isLocked(1), 1);
        due("P13 until 119", x.run(57), 0);
        due("P13 until 119", x.isLocked(1), 1);
        due("P13 free in 120, and it steps", x.run(1), 1);
        due("P13 free in 120", x.isLocked(1), 0);
        FeederControl y = hunting(55);
        due("P13 locked in 59", swing(y, 4), 4);
        due("P13 locked in 59", y.isLocked(1), 1);
        due("P13 free in 60", y.run(1), 1);
        due("P13 free in 60", y.isLocked(1), 0);
        FeederControl z = hunting(1435);
        due("P13 locked in 1439", swing(z, 4), 4);
        due("P13 locked in 1439", z.isLocked(1), 1);
        due("P13 free in 1440", z.run(1), 1);
        due("P13 free in 1440", z.isLocked(1), 0);
        FeederControl all = nodes(8, 50, 0, 0, 0);
        all.addRegulator(8, 10000, 100, 0, 0);
        all.run(55);
        for (int i = 0; i < 4; i++) {
            all.setLoad(8, i % 2 == 0 ? 60 : -60, 0);
            all.run(1);
        }
        due("P13 the 8th segment's lock", all.isLocked(8), 1);
        all.run(1);
        due("P13 the 8th segment's lock", all.isLocked(8), 0);
    }

    private static void promise13TheLowestSegment() {
        FeederControl x = nodes(8, 0, 0, 0, 0);
        x.setSource(9000);
        for (int k = 8; k >= 1; k--) {
            x.addRegulator(k, 11000, 10, 0, 0);
        }
        due("P13 one step a minute", x.run(16), 16);
        due("P13 all on the lowest segment", x.tap(1), 116);
        for (int k = 2; k <= 8; k++) {
            due("P13 the others wait", x.tap(k), 100);
            due("P13 their timers pass their delays", x.timer(k), 16);
        }
        due("P13 the next", x.run(1), 1);
        due("P13 the first has done", x.timer(1), 0);
        due("P13 the second steps", x.tap(2), 101);
        due("P13 its timer", x.timer(2), 0);
        due("P13 the 8th waits", x.timer(8), 17);
        FeederControl y = nodes(8, 0, 0, 0, 0);
        y.setSource(9000);
        y.addRegulator(8, 11000, 10, 0, 0);
        y.addRegulator(1, 11000, 10, 1, 0);
        due("P13 the first is not due, the 8th is", y.run(1), 1);
        due("P13 the 8th", y.tap(8), 101);
        due("P13 both due", y.run(1), 1);
        due("P13 the first", y.tap(1), 101);
        due("P13 the 8th waits", y.timer(8), 1);
    }

    /** In minute 59; node 1 is too low in hour 0 (each percent of the loads lowers it by 12), as given in hour 1. */
    private static FeederControl wishingUp(int voltage, int percentInHour1) {
        FeederControl x = oneNode(50, 50, 500, 300);
        x.addNode(0, 0, 500, 300);
        x.addNode(0, 0, 500, 300);
        parse(x, "0:100; 1:" + percentInHour1 + ";");
        x.setSource(voltage + 12 * percentInHour1);
        x.run(55);
        x.addRegulator(1, 10000, 100, 20, 0);
        due("P13 minute 59", x.run(4), 0);
        due("P13 minute 59", x.timer(1), 4);
        return x;
    }

    /** The document says of the hour's beginning only that locks and numbers of opposite steps go. */
    private static void promise13WishesOverTheHour() {
        FeederControl same = wishingUp(9800, 90);
        due("P13 the same wish in minute 60", same.run(1), 0);
        due("P13 the same wish in minute 60", same.timer(1), 5);
        FeederControl other = wishingUp(10200, 0);
        due("P13 the opposite wish in minute 60", other.run(1), 0);
        due("P13 the opposite wish in minute 60", other.timer(1), 1);
        FeederControl none = wishingUp(10000, 0);
        due("P13 no wish in minute 60", none.run(1), 0);
        due("P13 no wish in minute 60", none.timer(1), 0);
    }

    /** In minute 11 the regulator has turned twice and wishes up for 2 minutes; the bank wishes on for 11 minutes. */
    private static FeederControl remembering() {
        FeederControl x = nodes(2, 0, 0, 0, 0);
        x.setLoad(2, 0, 200);
        x.addBank(2, 100, 2, 0, 150, 12);
        x.addRegulator(1, 10000, 100, 2, 0);
        for (int source : new int[] {9000, 11000, 9000}) {
            x.setSource(source);
            due("P13 a step in the third minute", x.run(3), 1);
        }
        due("P13 no step", x.run(2), 0);
        put(x, "0:100;");
        return x;
    }

    private static final List<Call> CALLS_THAT_LEAVE_WISHES = List.of(
        x -> x.setSource(9000), x -> x.setSource(9500), x -> x.setLoad(1, 0, 0), x -> x.setLoad(1, 500, 0),
        x -> x.setLoad(2, 0, 300), x -> x.setFactor(0, 100), x -> x.setFactor(0, 150), x -> x.parseProfile(),
        x -> x.append(';'), x -> x.clearText(), x -> x.addNode(50, 50, 0, 0), x -> x.addRegulator(2, 9500, 500, 30, 0),
        x -> x.addBank(1, 300, 0, 0, 0, 0), x -> x.addBank(1, 300, 1, 0, 0, 0), x -> x.setTap(1, 1),
        x -> x.setTap(1, 16) + x.setTap(1, 1), x -> x.setTap(1, -16) + x.setTap(1, 1), x -> x.switchBank(2, 0),
        x -> x.switchBank(2, 1) + x.switchBank(2, 0), x -> x.run(0), x -> x.undo(), x -> x.run(7) + x.undo(),
        x -> x.run(1440) + x.undo(), x -> x.setTap(1, 9) + x.undo(), x -> x.setSource(11000) + x.undo(),
        x -> x.minute(), x -> x.voltage(1), x -> x.activeFlow(1), x -> x.reactiveFlow(1), x -> x.tap(1),
        x -> x.timer(1), x -> x.isLocked(1), x -> x.steps(1), x -> x.isOn(2), x -> x.violations(),
        x -> x.planSteps(1), x -> x.planTap(1, 1), x -> x.errorCount(-2), x -> x.digest(),
        x -> x.setTap(1, 17), x -> x.addRegulator(1, 10000, 100, 2, 0), x -> x.addBank(2, 100, 2, 0, 150, 12));

    /** None of these calls lets time pass: timers, the minute before, the latest direction and the turns stay. */
    private static void promise13WhatIsRemembered() {
        for (int i = 0; i < CALLS_THAT_LEAVE_WISHES.size(); i++) {
            String what = "P13 call " + i + " between the minutes: ";
            FeederControl x = remembering();
            // one more saved state, so that an undo takes back this call and not a run
            x.setFactor(23, 50);
            CALLS_THAT_LEAVE_WISHES.get(i).on(x);
            due(what + "the timer", x.timer(1), 2);
            x.setSource(11000);
            due(what + "the opposite wish", x.run(1), 0);
            due(what + "its timer", x.timer(1), 1);
            due(what + "the bank's timer was 12 and is 13", x.run(1), 1);
            due(what + "the bank", x.isOn(2), 1);
            due(what + "the regulator's timer", x.timer(1), 2);
            due(what + "the third turn", x.run(1), 1);
            due(what + "locks", x.isLocked(1), 1);
            due(what + "the tap", x.tap(1), 100);
            due(what + "the steps", x.steps(1), 4);
            FeederControl locked = remembering();
            locked.setSource(11000);
            due(what + "the bank and the third turn", locked.run(3), 2);
            locked.setFactor(23, 50);
            CALLS_THAT_LEAVE_WISHES.get(i).on(locked);
            due(what + "still locked", locked.isLocked(1), 1);
            due(what + "still 4 steps", locked.steps(1), 4);
        }
        FeederControl byHand = oneNode(0, 0, 0, 0);
        byHand.addRegulator(1, 10000, 100, 9, 0);
        byHand.setTap(1, -8);
        due("P13 it wishes up", byHand.run(5), 0);
        due("P10 put high by hand", byHand.setTap(1, 8), 92);
        due("P10 the timer stays", byHand.timer(1), 5);
        due("P13 the opposite wish after a tap by hand", byHand.run(1), 0);
        due("P13 the opposite wish after a tap by hand", byHand.timer(1), 1);
    }

    private static void promise14() {
        changesNothing("P14 asking changes nothing", BUSY, x -> x.minute(), 3);
        FeederControl x = new FeederControl();
        due("P14 at first", x.minute(), 0);
        x.run(0);
        due("P14 no minute", x.minute(), 0);
        x.run(1);
        due("P14 one minute", x.minute(), 1);
        for (int day = 1; day <= 100; day++) {
            x.run(1440);
            due("P14 it does not begin anew", x.minute(), 1 + 1440 * day);
        }
    }

    // ---- values

    private static void promise15() {
        changesNothing("P15 node 0", BUSY, x -> x.voltage(0), 10000);
        changesNothing("P15 the highest node", BUSY, x -> x.voltage(3) * 0, 0);
        promise15Drop();
        promise15RegulatorRoundsDown();
        promise15NotBelowZero();
    }

    private static void voltageIs(int r, int x, int p, int q, int voltage) {
        due("P15 " + r + ", " + x + ", " + p + ", " + q, oneNode(r, x, p, q).voltage(1), voltage);
    }

    private static void promise15Drop() {
        voltageIs(1, 1, 50, 49, 10000);
        voltageIs(1, 1, 50, 50, 9999);
        voltageIs(1, 1, -50, -49, 10000);
        voltageIs(1, 1, -50, -50, 10001);
        voltageIs(1, 0, 99, 0, 10000);
        voltageIs(1, 0, 100, 0, 9999);
        voltageIs(1, 0, 199, 0, 9999);
        voltageIs(1, 0, 200, 0, 9998);
        voltageIs(0, 1, 0, -199, 10001);
        voltageIs(0, 1, 0, -200, 10002);
        voltageIs(1, 1, 100, -1, 10000);
        voltageIs(1, 1, -100, 1, 10000);
        voltageIs(0, 0, 500, 300, 10000);
        voltageIs(50, 50, 500, 300, 9600);
        voltageIs(50, 50, -500, -300, 10400);
        voltageIs(50, 50, 300, -300, 10000);
    }

    private static void promise15RegulatorRoundsDown() {
        // source, tap, voltage: 10000 * 161 / 160 = 10062.5, and so on
        int[][] cases = {{10000, 0, 10000}, {10000, 1, 10062}, {10000, -1, 9937}, {10000, 16, 11000},
            {10000, -16, 9000}, {9600, 1, 9660}, {9601, 1, 9661}, {9599, -1, 9539}, {9000, 16, 9900}, {9000, -16, 8100},
            {11000, 16, 12100}, {11000, -16, 9900}, {9001, 16, 9901}, {9009, -16, 8108}};
        for (int[] c : cases) {
            FeederControl x = oneNode(0, 0, 0, 0);
            x.addRegulator(1, 10000, 100, 0, 0);
            x.setSource(c[0]);
            x.setTap(1, c[1]);
            due("P15 " + c[0] + " at tap " + c[1], x.voltage(1), c[2]);
        }
        FeederControl x = oneNode(1, 0, 160, 0);
        x.addRegulator(1, 10000, 100, 0, 0);
        x.setTap(1, 1);
        due("P15 10062.5 - 1.6 is 10062 - 1", x.voltage(1), 10061);
    }

    private static void promise15NotBelowZero() {
        FeederControl x = nodes(8, 0, 0, 500, 300);
        FeederControl y = new FeederControl();
        y.addNode(50, 50, 500, 300);
        y.addNode(50, 0, 500, 300);
        for (int k = 3; k <= 8; k++) {
            y.addNode(0, 0, 500, 300);
        }
        y.setFactor(0, 200);
        due("P15 without impedance nothing drops", x.voltage(8), 10000);
        y.setSource(9901);
        due("P15 9901 - 50 * 8000 / 100 - 50 * 4800 / 100", y.voltage(1), 3501);
        due("P15 less 50 * 7000 / 100", y.voltage(2), 1);
        y.setSource(9900);
        due("P15 0 itself", y.voltage(2), 0);
        y.setSource(9899);
        due("P15 -1 becomes 0", y.voltage(2), 0);
        due("P15 0 goes on", y.voltage(8), 0);
        y.addRegulator(3, 10000, 100, 0, 0);
        y.setTap(3, 16);
        due("P15 a tap lifts no 0", y.voltage(3), 0);
    }

    private static void promise16() {
        changesNothing("P16 the lowest segment", BUSY, x -> x.activeFlow(1), 10400);
        changesNothing("P16 the highest segment", BUSY, x -> x.activeFlow(3), 9800);
        FeederControl x = nodes(8, 0, 0, 500, 0);
        due("P16 8 nodes", x.activeFlow(1), 14000);
        due("P16 the last segment", x.activeFlow(8), 10500);
        x.setFactor(0, 200);
        due("P16 the most", x.activeFlow(1), 18000);
        due("P16 the last segment", x.activeFlow(8), 11000);
        FeederControl y = nodes(8, 0, 0, -500, 0);
        y.setFactor(0, 200);
        due("P16 the least", y.activeFlow(1), 2000);
        due("P16 the last segment", y.activeFlow(8), 9000);
    }

    private static void promise17() {
        changesNothing("P17 the lowest segment", BUSY, x -> x.reactiveFlow(1), 10200);
        changesNothing("P17 the highest segment", BUSY, x -> x.reactiveFlow(3), 9950);
        FeederControl x = nodes(8, 0, 0, 0, 300);
        due("P17 8 nodes", x.reactiveFlow(1), 12400);
        x.setFactor(0, 200);
        due("P17 the most", x.reactiveFlow(1), 14800);
        due("P17 the last segment", x.reactiveFlow(8), 10600);
        FeederControl y = nodes(8, 0, 0, 0, -300);
        y.setFactor(0, 200);
        for (int k = 1; k <= 8; k++) {
            y.addBank(k, 300, 0, 0, 0, 0);
            y.switchBank(k, 1);
        }
        due("P17 the least, with all banks on", y.reactiveFlow(1), 2800);
        due("P17 the last segment", y.reactiveFlow(8), 9100);
        y.setFactor(0, 0);
        due("P17 without loads", y.reactiveFlow(1), 7600);
    }

    private static void promises18To22() {
        changesNothing("P18", BUSY, x -> x.tap(1), 101);
        changesNothing("P19", BUSY, x -> x.timer(2), 3);
        changesNothing("P20", BUSY, x -> x.isLocked(1), 0);
        changesNothing("P21", BUSY, x -> x.steps(1), 3);
        changesNothing("P22 off", BUSY, x -> x.isOn(2), 0);
        changesNothing("P22 on", BUSY, x -> x.isOn(3), 1);
        FeederControl x = nodes(8, 0, 0, 0, 0);
        for (int k : new int[] {1, 8}) {
            x.addRegulator(k, 10000, 100, 0, 0);
            x.addBank(k, 10, 0, 0, 0, 0);
            due("P18 at first", x.tap(k), 100);
            due("P18 lowest", x.setTap(k, -16), 100);
            due("P18 lowest", x.tap(k), 84);
            x.setTap(k, 16);
            due("P18 highest", x.tap(k), 116);
            due("P19 at first", x.timer(k), 0);
            due("P20 at first", x.isLocked(k), 0);
            due("P21 at first", x.steps(k), 0);
            due("P22 at first", x.isOn(k), 0);
        }
        FeederControl y = regulated(11000, 9000, 0, 16);
        due("P21 all the way down", y.run(1440), 32);
        due("P21 all the way down", y.steps(1), 32);
        due("P21 without a turn", y.isLocked(1), 0);
    }

    private static void violationsAt(int source, int count) {
        FeederControl x = nodes(8, 0, 0, 0, 0);
        x.setSource(source);
        due("P23 asking counts nothing", x.violations(), 0);
        x.run(1);
        due("P23 8 nodes at " + source, x.violations(), count);
        x.run(1440);
        due("P23 a day at " + source, x.violations(), 1441 * count);
    }

    private static void promise23() {
        changesNothing("P23 without nodes", EMPTY, x -> x.violations(), 0);
        violationsAt(9000, 8);
        violationsAt(9499, 8);
        violationsAt(9500, 0);
        violationsAt(10500, 0);
        violationsAt(10501, 8);
        violationsAt(11000, 8);
        FeederControl x = nodes(7, 0, 0, 0, 0);
        x.addNode(1, 0, 100, 0);
        x.setSource(9500);
        x.run(1);
        due("P23 the last of 8 nodes has 9499", x.violations(), 1);
        FeederControl y = oneNode(1, 0, -100, 0);
        y.setSource(10500);
        y.run(1);
        due("P23 10501 behind a source of 10500", y.violations(), 1);
        y.setSource(10999);
        y.setLoad(1, 500, 0);
        due("P23 10999 - 5", y.voltage(1), 10994);
        y.run(2);
        due("P23 it goes on", y.violations(), 3);
        // 9499 * 161 / 160 = 9558, 10460 * 161 / 160 = 10525: the minute of the step counts what follows the step
        FeederControl helped = regulated(9499, 11000, 0, 0);
        due("P23 a step out of 9499", helped.run(1), 1);
        due("P23 no violation", helped.violations(), 0);
        FeederControl harmed = regulated(10460, 11000, 0, 0);
        due("P23 a step out of 10460", harmed.run(1), 1);
        due("P23 a violation", harmed.violations(), 1);
        due("P23 undo", harmed.undo(), 2);
        due("P23 undone", harmed.violations(), 0);
    }

    // ---- plan

    private static void planAtEdge(int source, int p, int steps) {
        FeederControl x = oneNode(50, 0, p, 0);
        x.setSource(source);
        x.addRegulator(1, 10000, 100, 0, 0);
        due("P24 " + source + " with " + p, x.planSteps(1), steps);
        FeederControl above = oneNode(50, 0, p, 0);
        above.setSource(source);
        above.addNode(0, 0, 0, 0);
        above.addRegulator(2, 10000, 100, 0, 0);
        due("P24 node 1 is above the regulator", above.planSteps(2), steps == 0 ? 0 : MISSING);
        due("P24 and its tap", above.planTap(2, 23), steps == 0 ? 100 : MISSING);
        FeederControl below = oneNode(0, 0, 0, 0);
        below.addRegulator(1, 10000, 100, 0, 0);
        for (int k = 2; k <= 7; k++) {
            below.addNode(0, 0, 0, 0);
        }
        below.addNode(50, 0, p, 0);
        below.setSource(source);
        due("P24 the 8th node below the regulator", below.planSteps(1), steps);
    }

    private static void promise24() {
        changesNothing("P24", BUSY, x -> x.planSteps(1) * 0, 0);
        planAtEdge(9500, 0, 0);
        planAtEdge(9500, 1, 0);
        planAtEdge(9500, 2, 1);
        planAtEdge(10500, 0, 0);
        planAtEdge(10500, -1, 0);
        planAtEdge(10500, -2, 1);
        // 9000 * 176 / 160 - 400 = 9500, and tap 15 gives 9443
        FeederControl up = oneNode(50, 0, 400, 0);
        up.addRegulator(1, 10000, 100, 0, 0);
        up.setSource(9000);
        up.setTap(1, -16);
        parse(up, "0-23:200;");
        due("P24 from the lowest tap to the highest", up.planSteps(1), 32);
        due("P25 in hour 0", up.planTap(1, 0), 116);
        due("P25 in hour 23", up.planTap(1, 23), 116);
        up.setLoad(1, 401, 0);
        due("P24 there is no tap 17", up.planSteps(1), MISSING);
        // 11000 * 144 / 160 + 600 = 10500, and tap -15 gives 10568
        FeederControl down = oneNode(50, 50, -500, -100);
        down.addRegulator(1, 10000, 100, 0, 0);
        down.setSource(11000);
        down.setTap(1, 16);
        parse(down, "0-23:200;");
        due("P24 from the highest tap to the lowest", down.planSteps(1), 32);
        due("P25 in hour 0", down.planTap(1, 0), 84);
        due("P25 in hour 23", down.planTap(1, 23), 84);
        down.setLoad(1, -500, -101);
        due("P24 there is no tap -17", down.planSteps(1), MISSING);
        promise24WithoutAllowedTap();
    }

    /** With this load no tap is allowed in an hour with the factor 200; the other hours have no loads. */
    private static FeederControl withoutTapIn(int hour) {
        FeederControl x = oneNode(0, 0, 0, 0);
        x.addNode(50, 50, 500, 300);
        x.addNode(50, 50, 500, 300);
        x.addRegulator(1, 10000, 100, 0, 0);
        parse(x, "0-23:0;");
        x.setFactor(hour, 200);
        return x;
    }

    private static void promise24WithoutAllowedTap() {
        for (int hour : new int[] {0, 1, 22, 23}) {
            Start start = new Start(() -> withoutTapIn(hour), 35 + 3 * 5 + 4);
            due("P24 no tap in hour " + hour, start.make().planSteps(1), MISSING);
            due("P24 the counter", start.make().errorCount(MISSING), 0);
            for (int asked : new int[] {0, 23}) {
                FeederControl x = start.make();
                due("P25 no tap in hour " + hour, x.planTap(1, asked), MISSING);
                due("P25 the counter", x.errorCount(MISSING), 1);
                x.setFactor(hour, 0);
                due("P25 with a tap in hour " + hour, x.planTap(1, asked), 100);
            }
        }
        Start none = new Start(() -> withoutTapIn(7), 35 + 3 * 5 + 4);
        FeederControl x = none.make();
        long before = x.digest();
        due("P24 refused", x.planSteps(1), MISSING);
        due("P24 the counter alone", x.digest() - before, weight(MISSING, none.values()));
        due("P25 refused", x.planTap(1, 0), MISSING);
        due("P25 the counter alone", x.digest() - before, 2 * weight(MISSING, none.values()));
    }

    /** In hours with the factor 200 (a drop of 1500) tap 16 alone is allowed, without loads the taps from -8 to 8. */
    private static FeederControl zigzag(int firstHour) {
        FeederControl x = new FeederControl();
        x.addNode(50, 0, 500, 0);
        x.addNode(0, 0, 500, 0);
        x.addNode(0, 0, 500, 0);
        x.addRegulator(1, 10000, 500, 30, 0);
        StringBuilder text = new StringBuilder("0-23:0;");
        for (int hour = firstHour; hour < 24; hour += 2) {
            text.append(hour).append(":200;");
        }
        due("P25 items", parse(x, text.toString()), 13);
        return x;
    }

    private static void promise25() {
        changesNothing("P25 hour 0", BUSY, x -> x.planTap(1, 0) * 0, 0);
        for (int bad : new int[] {-1, 24, LEAST, MOST}) {
            refused("P25 hour " + bad, OUT_OF_RANGE, BUSY, x -> x.planTap(1, bad));
            refused("P25 hour " + bad + " comes before missing", OUT_OF_RANGE, BUSY, x -> x.planTap(3, bad));
        }
        FeederControl odd = zigzag(1);
        due("P24 16 up, then 11 times 8 down and 8 up", odd.planSteps(1), 192);
        FeederControl even = zigzag(0);
        due("P24 16 up, then 11 times 8 down and 8 up, 8 down", even.planSteps(1), 200);
        FeederControl later = zigzag(1);
        later.run(1440);
        later.run(601);
        later.setTap(1, 0);
        due("P24 the plan begins with hour 0 in every hour", later.planSteps(1), 192);
        for (int hour = 0; hour < 24; hour++) {
            due("P25 the lowest tap in hour 0, then up and down, hour " + hour, odd.planTap(1, hour),
                hour == 0 ? 100 : hour % 2 == 1 ? 116 : 108);
            due("P25 up and down, hour " + hour, even.planTap(1, hour), hour % 2 == 0 ? 116 : 108);
            due("P25 in a later hour", later.planTap(1, hour), odd.planTap(1, hour));
        }
        promise25FromTheTapsOfNow();
        promise25BetweenTheLastTwoTaps();
    }

    private static void promise25FromTheTapsOfNow() {
        // the allowed taps are -8 (9500) to 8 (10500) all day: within them the tap stays, outside it comes in by the end
        for (int tap = -16; tap <= 16; tap++) {
            FeederControl x = oneNode(0, 0, 0, 0);
            x.addRegulator(1, 10000, 500, 0, 0);
            x.setTap(1, tap);
            int stay = Math.max(-8, Math.min(8, tap));
            due("P24 from tap " + tap, x.planSteps(1), Math.abs(tap - stay));
            due("P25 from tap " + tap, x.planTap(1, 0), 100 + stay);
            due("P25 from tap " + tap, x.planTap(1, 23), 100 + stay);
        }
        FeederControl full = nodes(8, 0, 0, 0, 0);
        for (int k = 1; k <= 8; k++) {
            full.addRegulator(k, 10000, 500, 0, 0);
            full.setTap(k, k == 8 ? -16 : 1);
        }
        // 7 taps of 1, each rounded down, give 10442; with tap -15 node 8 has 9463, with tap -14 9528
        due("P15 node 7", full.voltage(7), 10442);
        due("P24 the 8th regulator", full.planSteps(8), 2);
        due("P25 the 8th regulator", full.planTap(8, 12), 86);
    }

    /** Loads press the voltage down but from hour 8 to hour 15: then there are none, and banks by time raise it. */
    private static FeederControl pressedAndRaised(int source, int factor, int kvar) {
        FeederControl x = oneNode(50, 50, 500, 300);
        for (int k = 2; k <= 8; k++) {
            x.addNode(0, 0, 500, 300);
        }
        x.setSource(source);
        x.addRegulator(1, 10000, 500, 30, 0);
        for (int k = 1, left = kvar; left > 0; k++, left -= 300) {
            x.addBank(k, Math.min(300, left), 1, 8, 16, 0);
        }
        due("P8 items", parse(x, "0-23:" + factor + "; 8-15:0;"), 2);
        return x;
    }

    private static void lastTapsAre(FeederControl x, int now, int steps, int pressed, int raised) {
        x.setTap(1, now);
        due("P24 between the last taps, from tap " + now, x.planSteps(1), steps);
        for (int hour = 0; hour < 24; hour++) {
            due("P25 between the last taps, from tap " + now + " in hour " + hour, x.planTap(1, hour),
                100 + (hour < 8 || hour > 15 ? pressed : raised));
        }
    }

    private static void promise25BetweenTheLastTwoTaps() {
        // pressed: tap -16 gives 9484, tap -15 gives 9552; raised: tap -16 gives 10500, tap -15 gives 10568
        FeederControl low = pressedAndRaised(11000, 13, 1200);
        lastTapsAre(low, 0, 17, -15, -16);
        lastTapsAre(low, -15, 2, -15, -16);
        lastTapsAre(low, -16, 3, -15, -16);
        // pressed: tap 15 gives 9459, tap 16 gives 9516; raised: tap 15 gives 10493, tap 16 gives 10550
        FeederControl high = pressedAndRaised(9000, 12, 1300);
        lastTapsAre(high, 0, 18, 16, 15);
        lastTapsAre(high, 15, 3, 16, 15);
        lastTapsAre(high, 16, 2, 16, 15);
    }

    // ---- state

    private static void promise26() {
        refused("P26 nothing saved", NOTHING_SAVED, CALM, x -> x.undo());
        for (int saves = 0; saves <= 6; saves++) {
            FeederControl x = calm();
            for (int i = 1; i <= saves; i++) {
                x.setSource(9000 + i);
            }
            for (int left = Math.min(saves, 3); left > 0; left--) {
                due("P26 " + saves + " saves", x.undo(), left - 1);
                int back = saves - (Math.min(saves, 3) - left) - 1;
                due("P26 " + saves + " saves", x.voltage(0), back == 0 ? 10000 : 9000 + back);
            }
            due("P26 no more than 3 of " + saves, x.undo(), NOTHING_SAVED);
            due("P26 the voltage stays", x.voltage(0), saves <= 3 ? 10000 : 9000 + saves - 3);
        }
        // an undo saves nothing, and room that it made is used again
        FeederControl x = calm();
        x.setSource(9001);
        x.setSource(9002);
        x.setSource(9003);
        due("P26 two remain", x.undo(), 2);
        x.setSource(9004);
        due("P26 two remain", x.undo(), 2);
        due("P26 back", x.voltage(0), 9002);
        due("P26 one remains", x.undo(), 1);
        due("P26 none remains", x.undo(), 0);
        due("P26 the oldest was not dropped", x.voltage(0), 10000);
        promise26WhatSavesNothing();
        promise26BringsADayBack();
    }

    private static void promise26BringsADayBack() {
        for (int minutes : new int[] {1, 57, 1440}) {
            undoable("P26 " + minutes + " minutes", calm().run(minutes), x -> x.run(minutes));
            FeederControl x = crowded();
            x.run(minutes);
            x.undo();
            FeederControl twin = crowded();
            twin.setSource(10000);
            twin.undo();
            sameAnswers("P26 " + minutes + " minutes of 8 nodes", x, twin, FUTURE, 0);
        }
        // the lock, the latest direction and the number of turns: each is brought back from a state that has another
        for (int turns = 0; turns <= 3; turns++) {
            FeederControl x = hunting(0);
            swing(x, turns + 1);
            FeederControl twin = hunting(0);
            swing(twin, turns + 1);
            x.setLoad(1, turns % 2 == 0 ? -500 : 500, 0);
            x.run(1);
            x.undo();
            x.undo();
            twin.setSource(10000);
            twin.setSource(10000);
            twin.undo();
            twin.undo();
            due("P26 locked after " + turns + " turns", x.isLocked(1), turns == 3 ? 1 : 0);
            for (int load : new int[] {-500, 500, -500, 500, -500}) {
                sameAnswers("P26 after " + turns + " turns", x, twin,
                    List.of(y -> y.setLoad(1, load, 0), y -> y.run(1), y -> y.isLocked(1)), 0);
            }
        }
    }

    private static void promise26WhatSavesNothing() {
        List<Call> queries = List.of(x -> x.append('5'), x -> x.clearText(), x -> x.append('x') * 0 + x.parseProfile(),
            x -> x.minute(), x -> x.voltage(0), x -> x.activeFlow(1), x -> x.reactiveFlow(1), x -> x.tap(1),
            x -> x.timer(1), x -> x.isLocked(1), x -> x.steps(1), x -> x.isOn(2), x -> x.violations(),
            x -> x.planSteps(1), x -> x.planTap(1, 1), x -> x.errorCount(-2), x -> x.digest());
        for (int i = 0; i < queries.size(); i++) {
            FeederControl x = calm();
            queries.get(i).on(x);
            due("P26 query " + i + " saves nothing", x.undo(), NOTHING_SAVED);
        }
    }

    private static void promise27() {
        for (int bad : new int[] {-7, -1, 0, LEAST, MOST}) {
            refused("P27 code " + bad, OUT_OF_RANGE, BUSY, x -> x.errorCount(bad));
            refused("P27 code " + bad + " on a new object", OUT_OF_RANGE, EMPTY, x -> x.errorCount(bad));
        }
        for (int code = -6; code <= -2; code++) {
            int counted = code;
            changesNothing("P27 code " + code + " on a new object", EMPTY, x -> x.errorCount(counted), 0);
            changesNothing("P27 code " + code, BUSY, x -> x.errorCount(counted), code == FULL ? 0 : 1);
        }
        FeederControl x = new FeederControl();
        for (int i = 1; i <= 100; i++) {
            x.undo();
            x.tap(1);
            due("P27 the lowest code", x.errorCount(-6), i);
            due("P27 the highest code", x.errorCount(-2), i);
        }
        x.setSource(9000);
        x.undo();
        due("P27 undo brings no counter back", x.errorCount(-6), 100);
    }

    /**
     * The digest as the document builds it, with all factors 100, from the other answers. It may count errors of its
     * own, so the digest is to be asked before it. bankTimers has a place for each node.
     */
    private static long digestOf(FeederControl x, int textLength, int[] bankTimers, int saved) {
        long h = 2749;
        for (int code = -2; code >= -6; code--) {
            h = 31 * h + x.errorCount(code);
        }
        h = 31 * h + textLength;
        h = 31 * h + x.minute();
        h = 31 * h + x.voltage(0);
        for (int hour = 0; hour < 24; hour++) {
            h = 31 * h + 100;
        }
        h = 31 * h + bankTimers.length;
        for (int k = 1; k <= bankTimers.length; k++) {
            h = 31 * h + x.voltage(k);
            h = 31 * h + x.activeFlow(k) - 10000;
            h = 31 * h + x.reactiveFlow(k) - 10000;
            int tap = x.tap(k);
            h = 31 * h + (tap == MISSING ? 0 : 1);
            if (tap != MISSING) {
                h = 31 * h + tap - 100;
                h = 31 * h + x.timer(k);
                h = 31 * h + x.isLocked(k);
                h = 31 * h + x.steps(k);
            }
            int on = x.isOn(k);
            h = 31 * h + (on == MISSING ? 0 : 1);
            if (on != MISSING) {
                h = 31 * h + on;
                h = 31 * h + bankTimers[k - 1];
            }
        }
        h = 31 * h + x.violations();
        return 31 * h + saved;
    }

    private static void promise28() {
        FeederControl empty = new FeederControl();
        due("P28 no node", empty.digest(), hash(0, 0, 0, 0, 0, 0, 0, 10000,
            100, 100, 100, 100, 100, 100, 100, 100, 100, 100, 100, 100,
            100, 100, 100, 100, 100, 100, 100, 100, 100, 100, 100, 100, 0, 0, 0));
        changesNothing("P28 asking changes nothing", BUSY, x -> x.digest() * 0, 0);
        FeederControl x = nodes(8, 20, 10, 100, -50);
        due("P28 8 nodes without devices", x.digest(), digestOf(x, 0, new int[8], 3));
        for (int k = 1; k <= 8; k++) {
            x.addRegulator(k, 10000, 10 * k, 1, 0);
            x.addBank(k, 10 * k, k % 3, 0, 5, 30);
            x.setTap(k, k % 2 == 0 ? -k : k);
        }
        due("P28 all of 8 nodes", x.digest(), digestOf(x, 0, new int[8], 3));
        put(x, " ".repeat(120));
        due("P28 a text of 120 bytes", x.digest(), digestOf(x, 120, new int[8], 3));
        x.setLoad(8, 500, 300);
        x.run(7);
        // the banks at the nodes 2, 5 and 8 are in mode 2; the flow to node 2 (-110) is not above 5, the others are
        due("P28 timers of the banks in mode 2", x.digest(), digestOf(x, 120, new int[] {0, 0, 0, 0, 7, 0, 0, 7}, 3));
        due("P28 violations are in it", x.violations() > 0 ? 1 : 0, 1);
        for (int saved = 0; saved <= 4; saved++) {
            FeederControl y = new FeederControl();
            for (int i = 0; i < saved; i++) {
                y.run(0);
            }
            due("P28 " + saved + " saves", y.digest(), digestOf(y, 0, new int[0], Math.min(saved, 3)));
        }
    }
}
