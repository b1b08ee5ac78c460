/** Each promise of the document with ordinary inputs, edges and wrong inputs; the answers are worked out by hand. */
public final class PromiseTests {
    private static final int LEAST = Integer.MIN_VALUE;
    private static final int MOST = Integer.MAX_VALUE;
    private static final int OUT_OF_RANGE = -2;
    private static final int EXISTS = -3;
    private static final int MISSING = -4;
    private static final int FULL = -5;
    private static final int NOTHING_SAVED = -6;

    private static int checks = 0;
    private static int wrong = 0;

    public static void main(String[] args) {
        promise1NewObject();
        promise2SetSource();
        promise3AddNode();
        promise4SetLoad();
        promise5SetFactor();
        promise6Append();
        promise7ClearText();
        promise8ParseProfile();
        promise8SyntaxErrors();
        promise9AddRegulator();
        promise10SetTap();
        promise11AddBank();
        promise12SwitchBank();
        promise13RunRegulator();
        promise13RegulatorTimers();
        promise13RegulatorLimitsAndReverse();
        promise13OneStepAMinute();
        promise13HuntingLock();
        promise13BanksByTime();
        promise13BanksByFlow();
        promise13BankBeforeRegulator();
        promise13RangeAndUndo();
        promise14Minute();
        promise15Voltage();
        promise16ActiveFlow();
        promise17ReactiveFlow();
        promise18Tap();
        promise19Timer();
        promise20IsLocked();
        promise21Steps();
        promise22IsOn();
        promise23Violations();
        promise24PlanSteps();
        promise25PlanTap();
        promise24And25Banks();
        promise26Undo();
        promise26WhatIsSaved();
        promise27ErrorCount();
        promise28Digest();
        examples();
        System.out.println("PromiseTests: " + checks + " checks, " + wrong + " wrong");
        if (wrong != 0) {
            System.exit(1);
        }
    }

    private static void due(String what, long got, long want) {
        checks++;
        if (got != want) {
            wrong++;
            System.out.println(what + " answered " + got + ", due is " + want);
        }
    }

    private static void put(FeederControl x, String text) {
        x.clearText();
        for (int i = 0; i < text.length(); i++) {
            due("append to '" + text + "'", x.append(text.charAt(i)), i + 1);
        }
    }

    private static int parse(FeederControl x, String text) {
        put(x, text);
        return x.parseProfile();
    }

    private static int factor(FeederControl x, int hour) {
        int factor = x.setFactor(hour, 0);
        x.undo();
        return factor;
    }

    private static long hash(long... values) {
        long h = 2749;
        for (long v : values) {
            h = 31 * h + v;
        }
        return h;
    }

    /** One node whose voltage is 10000 - p / 2. */
    private static FeederControl oneNode(int p) {
        FeederControl x = new FeederControl();
        due("addNode", x.addNode(50, 0, p, 0), 1);
        return x;
    }

    private static void promise1NewObject() {
        FeederControl x = new FeederControl();
        due("P1 minute", x.minute(), 0);
        due("P1 voltage(0)", x.voltage(0), 10000);
        due("P1 voltage(1)", x.voltage(1), OUT_OF_RANGE);
        due("P1 violations", x.violations(), 0);
        due("P1 undo", x.undo(), NOTHING_SAVED);
        due("P1 clearText", x.clearText(), 0);
        for (int hour = 0; hour < 24; hour++) {
            due("P1 factor " + hour, factor(x, hour), 100);
        }
        FeederControl first = new FeederControl();
        FeederControl second = new FeederControl();
        first.setSource(9500);
        first.addNode(1, 1, 1, 1);
        due("P1 objects share nothing", second.voltage(0), 10000);
        due("P1 objects share no node", second.voltage(1), OUT_OF_RANGE);
    }

    private static void promise2SetSource() {
        FeederControl x = new FeederControl();
        due("P2 lowest", x.setSource(9000), 10000);
        due("P2 highest", x.setSource(11000), 9000);
        for (int bad : new int[] {8999, 11001, 0, -1, LEAST, MOST}) {
            due("P2 " + bad, x.setSource(bad), OUT_OF_RANGE);
        }
        due("P2 stays", x.voltage(0), 11000);
        due("P2 same again", x.setSource(11000), 11000);
        due("P2 undo", x.undo(), 2);
        due("P2 undo", x.undo(), 1);
        due("P2 after undo", x.voltage(0), 9000);
        due("P2 errors saved nothing", x.undo(), 0);
        due("P2 after undo", x.voltage(0), 10000);
        due("P2 errors", x.errorCount(-2), 6);
    }

    private static void promise3AddNode() {
        FeederControl x = new FeederControl();
        int[][] bad = {{-1, 0, 0, 0}, {51, 0, 0, 0}, {0, -1, 0, 0}, {0, 51, 0, 0}, {0, 0, -501, 0}, {0, 0, 501, 0},
            {0, 0, 0, -301}, {0, 0, 0, 301}, {LEAST, 0, 0, 0}, {0, MOST, 0, 0}, {0, 0, LEAST, 0}, {0, 0, 0, MOST}};
        for (int[] b : bad) {
            due("P3 bad", x.addNode(b[0], b[1], b[2], b[3]), OUT_OF_RANGE);
        }
        due("P3 none added", x.voltage(1), OUT_OF_RANGE);
        due("P3 nothing saved", x.undo(), NOTHING_SAVED);
        due("P3 first", x.addNode(0, 50, -500, 300), 1);
        due("P3 second", x.addNode(50, 0, 500, -300), 2);
        due("P3 voltage(1)", x.voltage(1), 10000);
        due("P3 voltage(2)", x.voltage(2), 9750);
        due("P3 third not there", x.voltage(3), OUT_OF_RANGE);
        for (int k = 3; k <= 8; k++) {
            due("P3 next", x.addNode(0, 0, 0, 0), k);
        }
        due("P3 full", x.addNode(0, 0, 0, 0), FULL);
        due("P3 range before full", x.addNode(51, 0, 0, 0), OUT_OF_RANGE);
        due("P3 full counted", x.errorCount(FULL), 1);
        due("P3 undo", x.undo(), 2);
        due("P3 undone", x.voltage(8), OUT_OF_RANGE);
        due("P3 again", x.addNode(1, 2, 3, 4), 8);
    }

    private static void promise4SetLoad() {
        FeederControl x = new FeederControl();
        due("P4 no node", x.setLoad(1, 0, 0), OUT_OF_RANGE);
        x.addNode(10, 10, 1, 2);
        x.addNode(10, 10, 3, 4);
        due("P4 edges", x.setLoad(1, -500, -300), 1);
        due("P4 edges", x.setLoad(2, 500, 300), 1);
        due("P4 P", x.activeFlow(1), 10000);
        due("P4 Q", x.reactiveFlow(1), 10000);
        due("P4 P", x.activeFlow(2), 10500);
        due("P4 Q", x.reactiveFlow(2), 10300);
        int[][] bad = {{0, 0, 0}, {3, 0, 0}, {-1, 0, 0}, {LEAST, 0, 0}, {MOST, 0, 0}, {1, -501, 0}, {1, 501, 0},
            {1, 0, -301}, {1, 0, 301}, {2, LEAST, 0}, {2, 0, MOST}};
        for (int[] b : bad) {
            due("P4 bad", x.setLoad(b[0], b[1], b[2]), OUT_OF_RANGE);
        }
        due("P4 stays", x.activeFlow(2), 10500);
        due("P4 undo", x.undo(), 2);
        due("P4 undone", x.activeFlow(2), 10003);
        due("P4 undone", x.reactiveFlow(2), 10004);
    }

    private static void promise5SetFactor() {
        FeederControl x = new FeederControl();
        x.addNode(0, 0, 333, -77);
        due("P5 hour 0", x.setFactor(0, 50), 100);
        due("P5 P towards zero", x.activeFlow(1), 10166);
        due("P5 Q towards zero", x.reactiveFlow(1), 9962);
        due("P5 highest", x.setFactor(0, 200), 50);
        due("P5 P", x.activeFlow(1), 10666);
        due("P5 lowest", x.setFactor(0, 0), 200);
        due("P5 P", x.activeFlow(1), 10000);
        due("P5 hour 23", x.setFactor(23, 7), 100);
        due("P5 hour 23", x.setFactor(23, 8), 7);
        for (int bad : new int[] {-1, 24, LEAST, MOST}) {
            due("P5 hour " + bad, x.setFactor(bad, 100), OUT_OF_RANGE);
        }
        for (int bad : new int[] {-1, 201, LEAST, MOST}) {
            due("P5 factor " + bad, x.setFactor(1, bad), OUT_OF_RANGE);
        }
        due("P5 undo", x.undo(), 2);
        due("P5 undone", factor(x, 23), 7);
        due("P5 others stay", factor(x, 1), 100);
        x.run(60);
        due("P5 hour 1 has its own factor", x.activeFlow(1), 10333);
    }

    private static void promise6Append() {
        FeederControl x = new FeederControl();
        due("P6 lowest", x.append(0), 1);
        due("P6 highest", x.append(127), 2);
        for (int bad : new int[] {-1, 128, 256, 313, LEAST, MOST}) {
            due("P6 " + bad, x.append(bad), OUT_OF_RANGE);
        }
        for (int i = 3; i <= 120; i++) {
            due("P6 next", x.append(32), i);
        }
        due("P6 full", x.append(32), FULL);
        due("P6 range before full", x.append(128), OUT_OF_RANGE);
        due("P6 no undo", x.undo(), NOTHING_SAVED);
        due("P6 length", x.clearText(), 120);
        due("P6 again", x.append(32), 1);
        FeederControl y = new FeederControl();
        StringBuilder items = new StringBuilder();
        for (int i = 0; i < 29; i++) {
            items.append("1:5;");
        }
        due("P6 the 120th byte counts", parse(y, items + "23:9"), -130);
        due("P6 the 120th byte counts", parse(y, items + "2:9;"), 30);
        due("P6 the 120th byte counts", factor(y, 2), 9);
    }

    private static void promise7ClearText() {
        FeederControl x = new FeederControl();
        due("P7 empty", x.clearText(), 0);
        put(x, "5:40;");
        due("P7 length", x.clearText(), 5);
        due("P7 emptied", x.clearText(), 0);
        due("P7 nothing to parse", x.parseProfile(), 0);
        due("P7 factor stays", factor(x, 5), 100);
        due("P7 only the parse saved", x.undo(), 0);
    }

    private static void promise8ParseProfile() {
        FeederControl x = new FeederControl();
        due("P8 no items", parse(x, ""), 0);
        due("P8 spaces alone", parse(x, "   "), 0);
        due("P8 one hour", parse(x, "5:40;"), 1);
        due("P8 before", factor(x, 4), 100);
        due("P8 hour", factor(x, 5), 40);
        due("P8 behind", factor(x, 6), 100);
        due("P8 two hours", parse(x, "0-23:200;7-7:0;"), 2);
        for (int hour = 0; hour < 24; hour++) {
            due("P8 hour " + hour, factor(x, hour), hour == 7 ? 0 : 200);
        }
        due("P8 later items win", parse(x, "3:1;2-4:2;4:3;"), 3);
        due("P8 2", factor(x, 2), 2);
        due("P8 3", factor(x, 3), 2);
        due("P8 4", factor(x, 4), 3);
        due("P8 spaces", parse(x, "  9 - 10 : 11 ;  12 :13; "), 2);
        due("P8 9", factor(x, 9), 11);
        due("P8 10", factor(x, 10), 11);
        due("P8 12", factor(x, 12), 13);
        due("P8 leading zeros", parse(x, "001-002:003;"), 1);
        due("P8 1", factor(x, 1), 3);
        due("P8 the text stays", x.parseProfile(), 1);
        due("P8 length", x.clearText(), 12);
        FeederControl y = new FeederControl();
        due("P8 one state for all items", parse(y, "1:10;2:20;3:30;"), 3);
        due("P8 undo", y.undo(), 0);
        due("P8 1", factor(y, 1), 100);
        due("P8 3", factor(y, 3), 100);
        due("P8 a text without items saves", parse(y, ""), 0);
        due("P8 undo", y.undo(), 0);
        due("P8 an error saves nothing", parse(y, "1:10;2:"), -17);
        due("P8 undo", y.undo(), NOTHING_SAVED);
        due("P8 an error sets nothing", factor(y, 1), 100);
        for (int code = -5; code <= -2; code++) {
            due("P8 no error is counted", y.errorCount(code), 0);
        }
    }

    private static void syntaxError(String text, int position) {
        FeederControl x = new FeederControl();
        due("P8 '" + text + "'", parse(x, text), -10 - position);
    }

    private static void promise8SyntaxErrors() {
        syntaxError("5", 1);
        syntaxError("5 ", 2);
        syntaxError("5:", 2);
        syntaxError("5: ", 3);
        syntaxError("5:1", 3);
        syntaxError("5:1 ", 4);
        syntaxError("5-", 2);
        syntaxError("5-6", 3);
        syntaxError("5-6:", 4);
        syntaxError("5:1;6", 5);
        syntaxError(";", 0);
        syntaxError(":", 0);
        syntaxError("-", 0);
        syntaxError("x", 0);
        syntaxError("  x", 2);
        syntaxError("5;", 1);
        syntaxError("5:;", 2);
        syntaxError("5-:1;", 2);
        syntaxError("5-6-7:1;", 3);
        syntaxError("5--6:1;", 2);
        syntaxError("5:1-2;", 3);
        syntaxError("5:-1;", 2);
        syntaxError("5:1:2;", 3);
        syntaxError("5:1;;", 4);
        syntaxError("5:1,", 3);
        syntaxError("1 2:1;", 2);
        syntaxError("5:1 0;", 4);
        syntaxError("5-1 2:1;", 2);
        syntaxError("5-6 7:1;", 4);
        syntaxError("24:1;", 0);
        syntaxError("  99:1;", 2);
        syntaxError("0-24:1;", 2);
        syntaxError("5-4:1;", 2);
        syntaxError("5- 004:1;", 3);
        syntaxError("5:201;", 2);
        syntaxError("5: 999;", 3);
        syntaxError("24", 0);
        syntaxError("24x", 0);
        syntaxError("5:201", 2);
        syntaxError("5-4", 2);
        syntaxError("0005:1;", 3);
        syntaxError("9999:1;", 3);
        syntaxError("1-0002:1;", 5);
        syntaxError("1-9999:1;", 5);
        syntaxError("5:0000;", 5);
        syntaxError("5:10000;", 5);
        syntaxError("5:1;24:1;", 4);
        syntaxError("5:1; 6:7;8", 10);
        syntaxError("5:1\u0000;", 3);
        syntaxError("5:1\t;", 3);
        syntaxError("5:/;", 2);
        syntaxError("5::;", 2);
        syntaxError("\u007f", 0);
        FeederControl x = new FeederControl();
        due("P8 highest hour, highest factor", parse(x, "23:200;"), 1);
        due("P8 equal hours", parse(x, "23-23:0;"), 1);
        due("P8 three digits", parse(x, "000-023:000;"), 1);
    }

    private static void promise9AddRegulator() {
        FeederControl x = new FeederControl();
        due("P9 no segment", x.addRegulator(1, 10000, 100, 0, 0), OUT_OF_RANGE);
        x.addNode(0, 0, 0, 0);
        x.addNode(0, 0, 0, 0);
        int[][] bad = {{0, 10000, 100, 0, 0}, {3, 10000, 100, 0, 0}, {-1, 10000, 100, 0, 0}, {LEAST, 10000, 100, 0, 0},
            {MOST, 10000, 100, 0, 0}, {1, 8999, 100, 0, 0}, {1, 11001, 100, 0, 0}, {1, 10000, 9, 0, 0},
            {1, 10000, 501, 0, 0}, {1, 10000, 100, -1, 0}, {1, 10000, 100, 31, 0}, {1, 10000, 100, 0, -1},
            {1, 10000, 100, 0, 2}, {1, MOST, 100, 0, 0}, {1, 10000, LEAST, 0, 0}, {1, 10000, 100, MOST, 0},
            {1, 10000, 100, 0, LEAST}};
        for (int[] b : bad) {
            due("P9 bad", x.addRegulator(b[0], b[1], b[2], b[3], b[4]), OUT_OF_RANGE);
        }
        due("P9 none there", x.tap(1), MISSING);
        due("P9 lowest", x.addRegulator(1, 9000, 10, 0, 0), 1);
        due("P9 highest", x.addRegulator(2, 11000, 500, 30, 1), 1);
        due("P9 exists", x.addRegulator(1, 9000, 10, 0, 0), EXISTS);
        due("P9 range before exists", x.addRegulator(1, 9000, 10, 31, 0), OUT_OF_RANGE);
        due("P9 tap", x.tap(1), 100);
        due("P9 timer", x.timer(1), 0);
        due("P9 not locked", x.isLocked(1), 0);
        due("P9 steps", x.steps(1), 0);
        due("P9 undo", x.undo(), 2);
        due("P9 undone", x.tap(2), MISSING);
        due("P9 other stays", x.tap(1), 100);
        due("P9 again", x.addRegulator(2, 10000, 100, 0, 0), 1);
        due("P9 exists counted", x.errorCount(EXISTS), 1);
    }

    private static void promise10SetTap() {
        FeederControl x = oneNode(400);
        due("P10 missing", x.setTap(1, 0), MISSING);
        due("P10 no segment", x.setTap(2, 0), OUT_OF_RANGE);
        due("P10 range before missing", x.setTap(1, 17), OUT_OF_RANGE);
        x.addRegulator(1, 10000, 10, 9, 0);
        due("P10 lowest", x.setTap(1, -16), 100);
        due("P10 voltage", x.voltage(1), 8800);
        due("P10 highest", x.setTap(1, 16), 84);
        due("P10 voltage", x.voltage(1), 10800);
        due("P10 back", x.setTap(1, 0), 116);
        for (int bad : new int[] {-17, 17, LEAST, MOST}) {
            due("P10 tap " + bad, x.setTap(1, bad), OUT_OF_RANGE);
        }
        for (int bad : new int[] {0, 2, -1, LEAST, MOST}) {
            due("P10 segment " + bad, x.setTap(bad, 0), OUT_OF_RANGE);
        }
        x.run(5);
        due("P10 timer before", x.timer(1), 5);
        due("P10 tap by hand", x.setTap(1, 1), 100);
        due("P10 timer stays", x.timer(1), 5);
        due("P10 no step counted", x.steps(1), 0);
        due("P10 undo", x.undo(), 2);
        due("P10 undone", x.tap(1), 100);
        x.run(5);
        due("P10 the timer went on", x.tap(1), 101);
        due("P10 steps", x.steps(1), 1);
        x.setTap(1, -3);
        due("P10 steps stay", x.steps(1), 1);
        due("P10 tap", x.tap(1), 97);
    }

    private static void promise11AddBank() {
        FeederControl x = new FeederControl();
        due("P11 no node", x.addBank(1, 10, 0, 0, 0, 0), OUT_OF_RANGE);
        for (int k = 1; k <= 8; k++) {
            x.addNode(0, 10, 0, 0);
        }
        int[][] bad = {{0, 10, 0, 0, 0, 0}, {9, 10, 0, 0, 0, 0}, {-1, 10, 0, 0, 0, 0}, {LEAST, 10, 0, 0, 0, 0},
            {MOST, 10, 0, 0, 0, 0}, {1, 0, 0, 0, 0, 0}, {1, 301, 0, 0, 0, 0}, {1, LEAST, 0, 0, 0, 0},
            {1, 10, -1, 0, 1, 0}, {1, 10, 3, 0, 1, 0}, {1, 10, MOST, 0, 1, 0}, {1, 10, 1, -1, 0, 0},
            {1, 10, 1, 24, 0, 0}, {1, 10, 1, 0, -1, 0}, {1, 10, 1, 0, 24, 0}, {1, 10, 2, -3001, 0, 0},
            {1, 10, 2, 3001, 3002, 0}, {1, 10, 2, 0, 3001, 0}, {1, 10, 2, -3002, -3001, 0}, {1, 10, 2, 5, 5, 0},
            {1, 10, 2, 6, 5, 0}, {1, 10, 0, 0, 0, -1}, {1, 10, 0, 0, 0, 31}, {1, 10, 1, 0, 0, -1},
            {1, 10, 1, 0, 0, 31}, {1, 10, 2, 0, 1, -1}, {1, 10, 2, 0, 1, 31}, {1, 10, 2, LEAST, MOST, 0}};
        for (int[] b : bad) {
            due("P11 bad", x.addBank(b[0], b[1], b[2], b[3], b[4], b[5]), OUT_OF_RANGE);
        }
        due("P11 none there", x.isOn(1), MISSING);
        due("P11 by hand, a and b not used", x.addBank(1, 1, 0, LEAST, MOST, 30), 1);
        due("P11 by time", x.addBank(2, 300, 1, 0, 23, 30), 1);
        due("P11 by time, equal hours", x.addBank(3, 300, 1, 23, 23, 0), 1);
        due("P11 by flow", x.addBank(4, 300, 2, -3000, 3000, 30), 1);
        due("P11 by flow", x.addBank(5, 300, 2, 2999, 3000, 0), 1);
        due("P11 exists", x.addBank(1, 1, 0, 0, 0, 0), EXISTS);
        due("P11 range before exists", x.addBank(1, 0, 0, 0, 0, 0), OUT_OF_RANGE);
        for (int k = 1; k <= 5; k++) {
            due("P11 off at first", x.isOn(k), 0);
        }
        due("P11 nothing supplied", x.reactiveFlow(1), 10000);
        due("P11 undo", x.undo(), 2);
        due("P11 undone", x.isOn(5), MISSING);
        due("P11 other stays", x.isOn(4), 0);
        due("P11 again", x.addBank(5, 20, 0, 0, 0, 0), 1);
    }

    private static void promise12SwitchBank() {
        FeederControl x = new FeederControl();
        x.addNode(0, 10, 0, 200);
        x.addNode(0, 10, 0, 100);
        due("P12 missing", x.switchBank(1, 1), MISSING);
        due("P12 range before missing", x.switchBank(1, 2), OUT_OF_RANGE);
        x.addBank(1, 30, 0, 0, 0, 0);
        for (int bad : new int[] {0, 3, -1, LEAST, MOST}) {
            due("P12 node " + bad, x.switchBank(bad, 1), OUT_OF_RANGE);
        }
        for (int bad : new int[] {-1, 2, LEAST, MOST}) {
            due("P12 on " + bad, x.switchBank(1, bad), OUT_OF_RANGE);
        }
        due("P12 on", x.switchBank(1, 1), 0);
        due("P12 flow", x.reactiveFlow(1), 10270);
        due("P12 on again", x.switchBank(1, 1), 1);
        due("P12 off", x.switchBank(1, 0), 1);
        due("P12 flow", x.reactiveFlow(1), 10300);
        due("P12 off again", x.switchBank(1, 0), 0);
        due("P12 undo", x.undo(), 2);
        due("P12 undo", x.undo(), 1);
        due("P12 undone", x.isOn(1), 1);
        x.run(3);
        due("P12 by hand it stays", x.isOn(1), 1);
        FeederControl y = new FeederControl();
        y.addNode(0, 10, 0, 200);
        y.addBank(1, 150, 2, 0, 120, 3);
        y.run(2);
        due("P12 off in mode 2", y.switchBank(1, 0), 0);
        due("P12 the timer stays: two more minutes", y.run(1), 0);
        due("P12 the timer stays: two more minutes", y.run(1), 1);
        due("P12 switched", y.isOn(1), 1);
        y.switchBank(1, 0);
        y.run(2);
        y.switchBank(1, 1);
        y.setLoad(1, 0, 100);
        due("P12 on by hand, now wants off; the timer goes on", y.run(1), 0);
        due("P12 on by hand, now wants off; the timer goes on", y.run(1), 1);
        due("P12 off", y.isOn(1), 0);
    }

    private static void promise13RunRegulator() {
        FeederControl x = oneNode(400);
        x.addRegulator(1, 10000, 60, 2, 0);
        due("P13 timer 1", x.run(1), 0);
        due("P13 timer 2", x.run(1), 0);
        due("P13 not yet", x.tap(1), 100);
        due("P13 due", x.run(1), 1);
        due("P13 tap", x.tap(1), 101);
        due("P13 timer after the step", x.timer(1), 0);
        due("P13 voltage", x.voltage(1), 9862);
        due("P13 two steps", x.run(6), 2);
        due("P13 in the band", x.voltage(1), 9987);
        due("P13 no more", x.run(100), 0);
        due("P13 tap", x.tap(1), 103);
        FeederControl y = oneNode(400);
        y.addRegulator(1, 10000, 200, 0, 0);
        due("P13 at the lower edge of the band", y.run(5), 0);
        y.setLoad(1, 402, 0);
        due("P13 below the band", y.run(1), 1);
        FeederControl z = oneNode(-400);
        z.addRegulator(1, 10000, 200, 0, 0);
        due("P13 at the upper edge of the band", z.run(5), 0);
        z.setLoad(1, -402, 0);
        due("P13 above the band", z.run(1), 1);
        due("P13 lowered", z.tap(1), 99);
    }

    private static void promise13RegulatorTimers() {
        FeederControl x = oneNode(400);
        x.addRegulator(1, 10000, 10, 5, 0);
        x.run(3);
        due("P13 timer", x.timer(1), 3);
        x.setLoad(1, -400, 0);
        x.run(1);
        due("P13 opposite direction", x.timer(1), 1);
        x.run(1);
        due("P13 same direction", x.timer(1), 2);
        x.setLoad(1, 0, 0);
        x.run(1);
        due("P13 nothing wanted", x.timer(1), 0);
        x.setLoad(1, 400, 0);
        x.run(1);
        due("P13 after nothing", x.timer(1), 1);
        x.run(5);
        due("P13 stepped", x.tap(1), 101);
        x.setLoad(1, -400, 0);
        x.run(1);
        due("P13 a step counts as nothing wanted", x.timer(1), 1);
        FeederControl y = oneNode(400);
        y.addRegulator(1, 10000, 10, 30, 0);
        due("P13 longest delay", y.run(30), 0);
        due("P13 longest delay", y.timer(1), 30);
        due("P13 due", y.run(1), 1);
    }

    private static void promise13RegulatorLimitsAndReverse() {
        FeederControl x = new FeederControl();
        x.addNode(0, 0, 0, 0);
        x.addRegulator(1, 11000, 10, 0, 0);
        x.setSource(9000);
        due("P13 up to the highest tap", x.run(40), 16);
        due("P13 highest tap", x.tap(1), 116);
        due("P13 at the limit it wants nothing", x.timer(1), 0);
        FeederControl y = new FeederControl();
        y.addNode(0, 0, 0, 0);
        y.addRegulator(1, 9000, 10, 0, 0);
        y.setSource(11000);
        due("P13 down to the lowest tap", y.run(40), 16);
        due("P13 lowest tap", y.tap(1), 84);
        due("P13 at the limit it wants nothing", y.timer(1), 0);
        FeederControl z = oneNode(-2);
        z.addRegulator(1, 11000, 10, 9, 1);
        due("P13 reverse flow", z.run(15), 0);
        due("P13 reverse flow", z.timer(1), 0);
        z.setLoad(1, 0, 0);
        due("P13 a flow of 0 is not reverse", z.run(10), 1);
        z.run(4);
        due("P13 timer", z.timer(1), 4);
        z.setLoad(1, -1, 0);
        z.run(1);
        due("P13 reverse flow ends it", z.timer(1), 0);
        FeederControl w = oneNode(-2);
        w.addRegulator(1, 11000, 10, 1, 0);
        due("P13 the reverse setting is 0", w.run(2), 1);
    }

    private static void promise13OneStepAMinute() {
        FeederControl x = new FeederControl();
        x.addNode(50, 0, 0, 0);
        x.addNode(50, 0, 400, 0);
        x.addRegulator(2, 10000, 50, 0, 0);
        x.addRegulator(1, 9900, 50, 2, 0);
        due("P13 voltage(1)", x.voltage(1), 9800);
        due("P13 voltage(2)", x.voltage(2), 9600);
        due("P13 two minutes", x.run(2), 2);
        due("P13 segment 2 went first", x.tap(2), 102);
        due("P13 segment 1 waits for its delay", x.timer(1), 2);
        due("P13 one step only", x.run(1), 1);
        due("P13 the lowest segment goes", x.tap(1), 101);
        due("P13 the other waits", x.tap(2), 102);
        due("P13 the other's timer goes on", x.timer(2), 1);
        due("P13 then the other", x.run(1), 1);
        due("P13 then the other", x.tap(2), 103);
        due("P13 timer", x.timer(2), 0);
        due("P13 segment 1 is in its band", x.timer(1), 0);
    }

    /** Makes the regulator of oneNode go up and down in turn, a minute each. */
    private static int swing(FeederControl x, int times) {
        int moved = 0;
        for (int i = 0; i < times; i++) {
            x.setLoad(1, i % 2 == 0 ? 500 : -500, 0);
            moved += x.run(1);
        }
        return moved;
    }

    private static void promise13HuntingLock() {
        FeederControl x = oneNode(0);
        x.addRegulator(1, 10000, 100, 0, 0);
        due("P13 first step and two opposite ones", swing(x, 3), 3);
        due("P13 not locked", x.isLocked(1), 0);
        x.setLoad(1, -500, 0);
        due("P13 third opposite step", x.run(1), 1);
        due("P13 locked after this step", x.isLocked(1), 1);
        due("P13 tap after it", x.tap(1), 100);
        due("P13 locked", x.run(55), 0);
        due("P13 timer", x.timer(1), 0);
        due("P13 minute", x.minute(), 59);
        due("P13 still locked", x.isLocked(1), 1);
        due("P13 minute 60 unlocks and steps", x.run(1), 1);
        due("P13 unlocked", x.isLocked(1), 0);
        due("P13 the latest direction stays over the hour", swing(x, 2), 2);
        due("P13 two opposite steps in this hour", x.isLocked(1), 0);
        x.setLoad(1, 500, 0);
        due("P13 the third", x.run(1), 1);
        due("P13 locked again", x.isLocked(1), 1);
        FeederControl y = oneNode(0);
        y.addRegulator(1, 10000, 100, 0, 0);
        y.run(57);
        due("P13 two opposite steps before the hour", swing(y, 2), 2);
        due("P13 the hour begins anew", swing(y, 2), 2);
        due("P13 minute", y.minute(), 61);
        due("P13 the numbers began anew", y.isLocked(1), 0);
        y.setLoad(1, 500, 0);
        due("P13 third in this hour", y.run(1), 1);
        due("P13 locked", y.isLocked(1), 1);
        FeederControl z = oneNode(0);
        z.addRegulator(1, 10000, 100, 0, 0);
        z.setLoad(1, 500, 0);
        due("P13 steps in the same direction", z.run(2), 2);
        z.setLoad(1, -500, 0);
        due("P13 one opposite step, then the same", z.run(4), 4);
        z.setLoad(1, 500, 0);
        due("P13 second opposite step, then the same", z.run(3), 3);
        due("P13 not locked", z.isLocked(1), 0);
        z.setLoad(1, -500, 0);
        due("P13 third opposite step", z.run(4), 1);
        due("P13 locked", z.isLocked(1), 1);
    }

    private static void bankByTime(int a, int b, int hour, int on) {
        FeederControl x = new FeederControl();
        x.addNode(0, 0, 0, 0);
        x.addBank(1, 10, 1, a, b, 30);
        for (int h = 0; h < hour; h++) {
            x.run(60);
        }
        due("P13 switchings by time are not counted", x.run(1), 0);
        due("P13 bank " + a + " to " + b + " in hour " + hour, x.isOn(1), on);
    }

    private static void promise13BanksByTime() {
        bankByTime(3, 5, 2, 0);
        bankByTime(3, 5, 3, 1);
        bankByTime(3, 5, 4, 1);
        bankByTime(3, 5, 5, 0);
        bankByTime(0, 23, 0, 1);
        bankByTime(0, 23, 22, 1);
        bankByTime(0, 23, 23, 0);
        bankByTime(0, 23, 24, 1);
        bankByTime(22, 2, 21, 0);
        bankByTime(22, 2, 22, 1);
        bankByTime(22, 2, 23, 1);
        bankByTime(22, 2, 0, 1);
        bankByTime(22, 2, 1, 1);
        bankByTime(22, 2, 2, 0);
        bankByTime(7, 7, 6, 1);
        bankByTime(7, 7, 7, 1);
        bankByTime(7, 7, 8, 1);
        FeederControl x = new FeederControl();
        x.addNode(0, 20, 0, 250);
        x.addBank(1, 200, 1, 1, 2, 0);
        x.run(59);
        due("P13 minute 59", x.isOn(1), 0);
        x.run(1);
        due("P13 minute 60", x.isOn(1), 1);
        x.switchBank(1, 0);
        due("P13 by hand", x.isOn(1), 0);
        x.run(1);
        due("P13 the next minute switches it again", x.isOn(1), 1);
        due("P13 its voltage", x.voltage(1), 9990);
        x.run(58);
        due("P13 minute 119", x.isOn(1), 1);
        x.run(1);
        due("P13 minute 120", x.isOn(1), 0);
    }

    private static void promise13BanksByFlow() {
        FeederControl x = new FeederControl();
        x.addNode(0, 0, 0, 120);
        x.addBank(1, 100, 2, 20, 120, 0);
        due("P13 a flow of b switches nothing", x.run(3), 0);
        x.setLoad(1, 0, 121);
        due("P13 more than b switches on", x.run(1), 1);
        due("P13 on", x.isOn(1), 1);
        due("P13 flow", x.reactiveFlow(1), 10021);
        x.setLoad(1, 0, 120);
        due("P13 a flow of a switches nothing", x.run(3), 0);
        x.setLoad(1, 0, 119);
        due("P13 less than a switches off", x.run(1), 1);
        due("P13 off", x.isOn(1), 0);
        FeederControl y = new FeederControl();
        y.addNode(0, 0, 0, 100);
        y.addNode(0, 0, 0, 100);
        y.addBank(1, 50, 2, 0, 120, 2);
        y.addBank(2, 50, 2, 0, 60, 1);
        due("P13 delays", y.run(1), 0);
        due("P13 node 2 first by its delay", y.run(1), 1);
        due("P13 node 2", y.isOn(2), 1);
        due("P13 node 1", y.run(1), 1);
        due("P13 node 1", y.isOn(1), 1);
        FeederControl z = new FeederControl();
        z.addNode(0, 0, 0, 100);
        z.addNode(0, 0, 0, 100);
        z.addBank(2, 50, 2, 0, 60, 0);
        z.addBank(1, 50, 2, 0, 120, 0);
        due("P13 both due, one switched", z.run(1), 1);
        due("P13 the lowest node", z.isOn(1), 1);
        due("P13 the other waits", z.isOn(2), 0);
        due("P13 then the other", z.run(1), 1);
        due("P13 then the other", z.isOn(2), 1);
        FeederControl w = new FeederControl();
        w.addNode(0, 0, 0, 200);
        w.addBank(1, 150, 2, 0, 120, 2);
        w.run(2);
        w.setLoad(1, 0, 100);
        w.run(1);
        w.setLoad(1, 0, 200);
        due("P13 the timer began anew", w.run(2), 0);
        due("P13 due", w.run(1), 1);
    }

    private static void promise13BankBeforeRegulator() {
        FeederControl x = new FeederControl();
        x.addNode(0, 50, 0, 200);
        x.addBank(1, 10, 2, 0, 120, 1);
        x.addRegulator(1, 10000, 50, 1, 0);
        due("P13 nothing due", x.run(1), 0);
        due("P13 the bank alone", x.run(1), 1);
        due("P13 bank", x.isOn(1), 1);
        due("P13 the regulator waits", x.tap(1), 100);
        due("P13 its timer goes on", x.timer(1), 2);
        due("P13 then the regulator", x.run(1), 1);
        due("P13 tap", x.tap(1), 101);
        FeederControl y = new FeederControl();
        y.addNode(0, 50, 0, 200);
        y.addBank(1, 200, 2, 0, 120, 0);
        y.addRegulator(1, 10000, 50, 9, 0);
        y.run(1);
        due("P13 the regulator looks at the voltage before the bank", y.timer(1), 1);
        due("P13 voltage behind", y.voltage(1), 10000);
        y.run(1);
        due("P13 the next minute it wants nothing", y.timer(1), 0);
    }

    private static void promise13RangeAndUndo() {
        FeederControl x = oneNode(400);
        x.addRegulator(1, 10000, 60, 0, 0);
        for (int bad : new int[] {-1, 1441, LEAST, MOST}) {
            due("P13 minutes " + bad, x.run(bad), OUT_OF_RANGE);
        }
        due("P13 no time passed", x.minute(), 0);
        due("P13 no minutes", x.run(0), 0);
        due("P13 saved even so", x.undo(), 2);
        due("P13 a day", x.run(1440), 3);
        due("P13 minute", x.minute(), 1440);
        due("P13 tap", x.tap(1), 103);
        due("P13 steps", x.steps(1), 3);
        due("P13 undo", x.undo(), 2);
        due("P13 undone minute", x.minute(), 0);
        due("P13 undone tap", x.tap(1), 100);
        due("P13 undone steps", x.steps(1), 0);
    }

    private static void promise14Minute() {
        FeederControl x = new FeederControl();
        due("P14 at first", x.minute(), 0);
        x.run(1);
        due("P14 one", x.minute(), 1);
        x.run(1440);
        x.run(1440);
        due("P14 days go on", x.minute(), 2881);
        x.setFactor(1, 50);
        due("P14 only running counts", x.minute(), 2881);
    }

    private static void promise15Voltage() {
        FeederControl x = new FeederControl();
        due("P15 source", x.voltage(0), 10000);
        for (int bad : new int[] {-1, 1, 9, LEAST, MOST}) {
            due("P15 node " + bad, x.voltage(bad), OUT_OF_RANGE);
        }
        x.addNode(7, 3, 19, 5);
        due("P15 a drop of 1.48 is 1", x.voltage(1), 9999);
        x.setLoad(1, -19, -5);
        due("P15 a rise of 1.48 is 1", x.voltage(1), 10001);
        x.setLoad(1, 0, 0);
        x.addRegulator(1, 10000, 100, 0, 0);
        x.setSource(10009);
        x.setTap(1, 1);
        due("P15 10009 * 161 / 160 = 10071.5 is rounded down", x.voltage(1), 10071);
        x.setTap(1, -1);
        due("P15 10009 * 159 / 160 = 9946.4 is rounded down", x.voltage(1), 9946);
        FeederControl y = new FeederControl();
        for (int k = 1; k <= 8; k++) {
            y.addNode(50, 50, 500, 300);
        }
        due("P15 8 nodes", y.voltage(1), 6800);
        due("P15 8 nodes", y.voltage(8), 0);
        due("P15 node 9", y.voltage(9), OUT_OF_RANGE);
        y.setFactor(0, 200);
        due("P15 a drop of 6400", y.voltage(1), 3600);
        due("P15 below 0 becomes 0", y.voltage(2), 0);
        y.setLoad(8, -500, -300);
        due("P15 a rise from 0", y.voltage(8), 800);
        FeederControl z = new FeederControl();
        z.addNode(10, 0, 100, 0);
        z.setFactor(1, 200);
        due("P15 hour 0", z.voltage(1), 9990);
        z.run(59);
        due("P15 minute 59", z.voltage(1), 9990);
        z.run(1);
        due("P15 hour 1", z.voltage(1), 9980);
        due("P15 errors", z.errorCount(-2), 0);
    }

    private static void promise16ActiveFlow() {
        FeederControl x = new FeederControl();
        due("P16 no segment", x.activeFlow(1), OUT_OF_RANGE);
        x.addNode(0, 0, 150, 7);
        x.addNode(0, 0, -500, 7);
        x.addNode(0, 0, 33, 7);
        due("P16 sum", x.activeFlow(1), 9683);
        due("P16 sum", x.activeFlow(2), 9533);
        due("P16 last", x.activeFlow(3), 10033);
        for (int bad : new int[] {0, 4, -1, LEAST, MOST}) {
            due("P16 segment " + bad, x.activeFlow(bad), OUT_OF_RANGE);
        }
        x.setFactor(0, 50);
        due("P16 each load is rounded by itself", x.activeFlow(1), 9841);
        x.addBank(1, 100, 0, 0, 0, 0);
        x.switchBank(1, 1);
        due("P16 a bank changes nothing", x.activeFlow(1), 9841);
    }

    private static void promise17ReactiveFlow() {
        FeederControl x = new FeederControl();
        due("P17 no segment", x.reactiveFlow(1), OUT_OF_RANGE);
        x.addNode(0, 0, 7, 150);
        x.addNode(0, 0, 7, -300);
        x.addNode(0, 0, 7, 33);
        due("P17 sum", x.reactiveFlow(1), 9883);
        due("P17 sum", x.reactiveFlow(2), 9733);
        due("P17 last", x.reactiveFlow(3), 10033);
        for (int bad : new int[] {0, 4, -1, LEAST, MOST}) {
            due("P17 segment " + bad, x.reactiveFlow(bad), OUT_OF_RANGE);
        }
        x.addBank(2, 100, 0, 0, 0, 0);
        due("P17 a bank that is off", x.reactiveFlow(1), 9883);
        x.switchBank(2, 1);
        due("P17 on", x.reactiveFlow(1), 9783);
        due("P17 on", x.reactiveFlow(2), 9633);
        due("P17 below it", x.reactiveFlow(3), 10033);
        x.setFactor(0, 50);
        due("P17 the factor is not for the bank", x.reactiveFlow(2), 9766);
    }

    private interface Query {
        int of(FeederControl x, int segment);
    }

    /** What the queries of a regulator or bank have in common: there is one on segment 2 of 3 alone. */
    private static void deviceQuery(String name, Query query, boolean ofBank) {
        FeederControl x = new FeederControl();
        due(name + " no segment", query.of(x, 1), OUT_OF_RANGE);
        for (int k = 1; k <= 3; k++) {
            x.addNode(0, 0, 0, 0);
        }
        if (ofBank) {
            x.addRegulator(1, 10000, 100, 0, 0);
            x.addBank(2, 10, 0, 0, 0, 0);
        } else {
            x.addBank(1, 10, 0, 0, 0, 0);
            x.addRegulator(2, 10000, 100, 0, 0);
        }
        for (int bad : new int[] {0, 4, -1, LEAST, MOST}) {
            due(name + " of " + bad, query.of(x, bad), OUT_OF_RANGE);
        }
        due(name + " missing", query.of(x, 1), MISSING);
        due(name + " missing", query.of(x, 3), MISSING);
        due(name + " out of range counted", x.errorCount(OUT_OF_RANGE), 6);
        due(name + " missing counted", x.errorCount(MISSING), 2);
    }

    private static void promise18Tap() {
        deviceQuery("P18", FeederControl::tap, false);
        FeederControl x = oneNode(0);
        x.addRegulator(1, 10000, 100, 0, 0);
        due("P18 at first", x.tap(1), 100);
        x.setTap(1, -16);
        due("P18 lowest", x.tap(1), 84);
        x.setTap(1, 16);
        due("P18 highest", x.tap(1), 116);
    }

    private static void promise19Timer() {
        deviceQuery("P19", FeederControl::timer, false);
        FeederControl x = oneNode(500);
        x.addRegulator(1, 10000, 100, 3, 0);
        due("P19 at first", x.timer(1), 0);
        for (int want : new int[] {1, 2, 3, 0, 1}) {
            x.run(1);
            due("P19 timer", x.timer(1), want);
        }
    }

    private static void promise20IsLocked() {
        deviceQuery("P20", FeederControl::isLocked, false);
        FeederControl x = oneNode(0);
        x.addRegulator(1, 10000, 100, 0, 0);
        x.addNode(0, 0, 0, 0);
        x.addRegulator(2, 10000, 500, 0, 0);
        due("P20 at first", x.isLocked(1), 0);
        swing(x, 4);
        due("P20 locked", x.isLocked(1), 1);
        due("P20 the other is not", x.isLocked(2), 0);
        x.setTap(1, 3);
        due("P20 a tap by hand unlocks nothing", x.isLocked(1), 1);
    }

    private static void promise21Steps() {
        deviceQuery("P21", FeederControl::steps, false);
        FeederControl x = oneNode(0);
        x.addRegulator(1, 10000, 100, 0, 0);
        due("P21 at first", x.steps(1), 0);
        swing(x, 3);
        due("P21 up and down both count", x.steps(1), 3);
        x.setTap(1, 9);
        due("P21 by hand does not count", x.steps(1), 3);
    }

    private static void promise22IsOn() {
        deviceQuery("P22", FeederControl::isOn, true);
        FeederControl x = oneNode(0);
        x.addBank(1, 10, 0, 0, 0, 0);
        due("P22 at first", x.isOn(1), 0);
        x.switchBank(1, 1);
        due("P22 on", x.isOn(1), 1);
        x.switchBank(1, 0);
        due("P22 off", x.isOn(1), 0);
    }

    private static int violationsAt(int source) {
        FeederControl x = new FeederControl();
        x.setSource(source);
        x.addNode(0, 0, 0, 0);
        x.run(1);
        return x.violations();
    }

    private static void promise23Violations() {
        due("P23 9499", violationsAt(9499), 1);
        due("P23 9500", violationsAt(9500), 0);
        due("P23 10500", violationsAt(10500), 0);
        due("P23 10501", violationsAt(10501), 1);
        FeederControl x = new FeederControl();
        x.setSource(11000);
        x.run(5);
        due("P23 node 0 does not count", x.violations(), 0);
        x.addNode(0, 0, 0, 0);
        x.addNode(50, 50, 500, 300);
        x.addNode(0, 0, 0, 0);
        due("P23 voltage(2)", x.voltage(2), 10600);
        x.run(5);
        due("P23 each node each minute", x.violations(), 15);
        due("P23 undo", x.undo(), 2);
        due("P23 undone", x.violations(), 0);
        for (int k = 4; k <= 8; k++) {
            x.addNode(0, 0, 0, 0);
        }
        x.run(2);
        due("P23 the 8th node counts too", x.violations(), 16);
        FeederControl y = oneNode(500);
        y.setSource(9745);
        y.addRegulator(1, 10000, 400, 0, 0);
        due("P23 the step helps in its own minute", y.run(1), 1);
        due("P23 the values behind the step count", y.voltage(1), 9555);
        due("P23 none", y.violations(), 0);
        FeederControl z = new FeederControl();
        z.addNode(0, 50, 0, 300);
        z.setSource(9640);
        z.addBank(1, 100, 2, -100, 100, 0);
        due("P23 before the bank", z.voltage(1), 9490);
        due("P23 the bank helps in its own minute", z.run(1), 1);
        due("P23 none", z.violations(), 0);
    }

    private static void promise24PlanSteps() {
        deviceQuery("P24", FeederControl::planSteps, false);
        FeederControl x = new FeederControl();
        x.addNode(0, 0, 0, 0);
        x.addRegulator(1, 10000, 100, 0, 0);
        due("P24 no steps", x.planSteps(1), 0);
        x.setSource(9000);
        due("P24 9 * 56.25 = 506.25", x.planSteps(1), 9);
        x.setTap(1, -16);
        due("P24 from the lowest tap", x.planSteps(1), 25);
        x.setTap(1, 16);
        due("P24 9900 is allowed", x.planSteps(1), 0);
        FeederControl y = oneNode(500);
        y.addRegulator(1, 10000, 500, 0, 0);
        y.setSource(9000);
        y.addNode(50, 50, 500, 300);
        due("P24 none allowed in any hour", y.planSteps(1), MISSING);
        due("P24 counted", y.errorCount(MISSING), 1);
        parse(y, "0-23:0;");
        due("P24 without loads", y.planSteps(1), 9);
        y.setFactor(23, 200);
        due("P24 none allowed in the last hour", y.planSteps(1), MISSING);
        y.setFactor(23, 0);
        y.setFactor(0, 200);
        due("P24 none allowed in the first hour", y.planSteps(1), MISSING);
        due("P24 no state saved", y.undo(), 2);
    }

    /** One node with a load of 500 at 100 percent (a drop of 250), a regulator and a profile. */
    private static FeederControl planned(int source, int tap, String profile) {
        FeederControl x = oneNode(500);
        x.setSource(source);
        x.addRegulator(1, 10000, 500, 0, 0);
        x.setTap(1, tap);
        parse(x, profile);
        return x;
    }

    private static void planIs(FeederControl x, int segment, int... taps) {
        for (int hour = 0; hour < 24; hour++) {
            due("P25 hour " + hour, x.planTap(segment, hour), 100 + taps[Math.min(hour, taps.length - 1)]);
        }
    }

    private static void promise25PlanTap() {
        FeederControl x = planned(10000, 0, "");
        for (int bad : new int[] {-1, 24, LEAST, MOST}) {
            due("P25 hour " + bad, x.planTap(1, bad), OUT_OF_RANGE);
        }
        for (int bad : new int[] {0, 2, -1, LEAST, MOST}) {
            due("P25 segment " + bad, x.planTap(bad, 0), OUT_OF_RANGE);
        }
        planIs(x, 1, 0);
        FeederControl none = new FeederControl();
        none.addNode(0, 0, 0, 0);
        due("P25 missing", none.planTap(1, 0), MISSING);
        due("P25 range before missing", none.planTap(1, 24), OUT_OF_RANGE);
        planKeepsTheTap();
        planGoesUpLate();
        planGoesDownAtOnce();
        planGoesBothWays();
        planAtTheEndsOfTheTaps();
        planMissing();
    }

    private static void planKeepsTheTap() {
        // in hour 5 the drop of 500 gives 9500, which is just allowed
        planIs(planned(10000, 0, "5:200;"), 1, 0);
        // without loads tap 5 gives 10209, and in hour 23 9709: allowed all day
        FeederControl x = planned(9900, 5, "0-23:0;23:200;");
        due("P25 stays", x.planSteps(1), 0);
        planIs(x, 1, 5);
    }

    private static void planGoesUpLate() {
        // in hour 5 the source of 9900 asks for tap 2 (10023 - 500); the low taps come first, and going back costs
        FeederControl x = planned(9900, 0, "5:200;");
        due("P25 up by 2", x.planSteps(1), 2);
        planIs(x, 1, 0, 0, 0, 0, 0, 2);
        FeederControl first = planned(9900, 0, "0:200;");
        planIs(first, 1, 2);
        // without loads tap -6 (9528) is the least, tap -7 (9466) is too low; in hour 23 tap 2 is the least
        FeederControl last = planned(9900, -7, "0-23:0;23:200;");
        due("P25 up by 9", last.planSteps(1), 9);
        planIs(last, 1, -6, -6, -6, -6, -6, -6, -6, -6, -6, -6, -6, -6, -6, -6, -6, -6, -6, -6, -6, -6, -6, -6, -6, 2);
    }

    private static void planGoesDownAtOnce() {
        // without loads tap 9 (10456) is the most, so the steps down come in hour 0
        FeederControl x = planned(9900, 16, "0-23:0;5:200;");
        due("P25 down by 7", x.planSteps(1), 7);
        planIs(x, 1, 9);
        // tap 8 (10500) is allowed, but hour 9 asks for tap 0 at most: the lowest tap in hour 0 is best
        FeederControl y = planned(10000, 8, "0-23:0;9:200;");
        y.setLoad(1, -500, 0);
        due("P25 down by 8", y.planSteps(1), 8);
        planIs(y, 1, 0);
    }

    /** In hour 20 the drop of 800 asks for tap 5 (10312) at least, the banks' rise of 300 for tap 3 (10187) at most. */
    private static FeederControl withTwoBanks(int tap, int fromHour, int toHour) {
        FeederControl x = new FeederControl();
        x.addNode(50, 50, 500, 300);
        x.addNode(0, 0, 0, 0);
        x.addRegulator(1, 10000, 500, 0, 0);
        x.setTap(1, tap);
        x.addBank(1, 300, 1, fromHour, toHour, 0);
        x.addBank(2, 300, 1, fromHour, toHour, 0);
        parse(x, "0-23:0;20:200;");
        return x;
    }

    private static void planGoesBothWays() {
        FeederControl x = withTwoBanks(8, 4, 5);
        due("P25 down by 5, up by 2", x.planSteps(1), 7);
        planIs(x, 1, 3, 3, 3, 3, 3, 3, 3, 3, 3, 3, 3, 3, 3, 3, 3, 3, 3, 3, 3, 3, 5);
        FeederControl y = withTwoBanks(0, 22, 23);
        due("P25 up by 5, down by 2", y.planSteps(1), 7);
        planIs(y, 1, 0, 0, 0, 0, 0, 0, 0, 0, 0, 0, 0, 0, 0, 0, 0, 0, 0, 0, 0, 0, 5, 3);
        FeederControl z = withTwoBanks(0, 21, 20);
        due("P25 up by 5, down by 2", z.planSteps(1), 7);
        planIs(z, 1, 0, 0, 0, 0, 0, 0, 0, 0, 0, 0, 0, 0, 0, 0, 0, 0, 0, 0, 0, 0, 5, 3);
        FeederControl none = withTwoBanks(0, 20, 21);
        due("P25 the banks in hour 20 itself help", none.planSteps(1), 0);
    }

    private static void planAtTheEndsOfTheTaps() {
        // 9000 gives 9900 at tap 16 and 9843 at tap 15; a load of 500 takes off 250
        FeederControl up = planned(9000, 0, "");
        up.addNode(50, 0, 150, 0);
        due("P25 both segments carry 150", up.voltage(2), 8600);
        due("P25 16 steps up", up.planSteps(1), 16);
        planIs(up, 1, 16);
        up.setLoad(2, 151, 0);
        due("P25 still 9900 - 325 - 75", up.planSteps(1), 16);
        up.setLoad(2, 152, 0);
        due("P25 there is no tap 17", up.planSteps(1), MISSING);
        // 11000 gives 9900 at tap -16 and 9968 at tap -15
        FeederControl down = planned(11000, 0, "");
        down.setLoad(1, -500, 0);
        down.addNode(50, 0, -233, 0);
        due("P25 9900 + 366 + 116; at tap -15 10450", down.planSteps(1), 15);
        down.setLoad(2, -300, 0);
        due("P25 9900 + 400 + 150; at tap -15 10518", down.planSteps(1), 16);
        planIs(down, 1, -16);
        down.setLoad(2, -350, 0);
        due("P25 9900 + 425 + 175", down.planSteps(1), 16);
        down.setLoad(2, -352, 0);
        due("P25 there is no tap -17", down.planSteps(1), MISSING);
        // a drop of 750 asks for tap -10 (10312), a rise of 250 for tap -11 (10243) at most
        FeederControl again = planned(11000, -16, "");
        again.addNode(50, 0, 500, 0);
        due("P25 6 steps up", again.planSteps(1), 6);
        again.setLoad(2, 0, 0);
        again.setLoad(1, -500, 0);
        due("P25 nothing of an earlier plan stays", again.planSteps(1), 0);
        planIs(again, 1, -16);
    }

    private static void planMissing() {
        FeederControl y = oneNode(500);
        y.addNode(50, 50, 500, 300);
        y.addRegulator(2, 10000, 500, 0, 0);
        parse(y, "0-23:0;");
        due("P25 there is one", y.planTap(2, 0), 100);
        y.setFactor(23, 200);
        due("P25 node 1 has 9000 in the last hour, whatever the tap", y.planTap(2, 0), MISSING);
        due("P25 counted", y.errorCount(MISSING), 1);
    }

    private static void promise24And25Banks() {
        FeederControl x = new FeederControl();
        x.addNode(0, 50, 0, 300);
        x.setSource(9600);
        x.addRegulator(1, 10000, 500, 0, 0);
        x.addBank(1, 300, 1, 6, 24 - 1, 0);
        // off (9450) in the hours 0 to 5 and 23: tap 1 gives 9660 - 150 = 9510 there
        due("P24 bank by time", x.planSteps(1), 1);
        planIs(x, 1, 1);
        x.switchBank(1, 1);
        due("P24 by time, whatever it is now", x.planSteps(1), 1);
        planIs(x, 1, 1);
        x.setTap(1, -1);
        due("P24 bank by time", x.planSteps(1), 2);
        FeederControl y = new FeederControl();
        y.addNode(0, 50, 0, 300);
        y.setSource(9600);
        y.addRegulator(1, 10000, 500, 0, 0);
        y.addBank(1, 300, 2, -100, 2000, 0);
        due("P24 bank by flow is off", y.planSteps(1), 1);
        y.switchBank(1, 1);
        due("P24 bank by flow is on", y.planSteps(1), 0);
        FeederControl z = new FeederControl();
        z.addNode(0, 50, 0, 300);
        z.setSource(9600);
        z.addRegulator(1, 10000, 500, 0, 0);
        z.addBank(1, 300, 0, 0, 0, 0);
        due("P24 bank by hand is off", z.planSteps(1), 1);
        z.switchBank(1, 1);
        due("P24 bank by hand is on", z.planSteps(1), 0);
        // another regulator above with its own tap: 9600 * 161 / 160 = 9660, less 150 = 9510
        FeederControl w = new FeederControl();
        w.addNode(0, 0, 0, 0);
        w.addNode(0, 50, 0, 300);
        w.setSource(9600);
        w.addRegulator(1, 10000, 500, 0, 0);
        w.addRegulator(2, 10000, 500, 0, 0);
        due("P24 other tap 0", w.planSteps(2), 1);
        w.setTap(1, 1);
        due("P24 other tap as it is now", w.planSteps(2), 0);
        due("P24 the plan moves no tap", w.tap(1), 101);
        due("P24 the plan moves no tap", w.tap(2), 100);
        due("P24 the plan switches no bank", x.isOn(1), 1);
        // the bank by time makes two hours differ, so the plan has to move with it
        FeederControl v = new FeederControl();
        v.addNode(0, 50, 0, -300);
        v.setSource(11000);
        v.addRegulator(1, 10000, 500, 0, 0);
        v.setTap(1, -16);
        v.addBank(1, 300, 1, 12, 13, 0);
        // 11000 * 144 / 160 = 9900; with the rise of 150 it is 10050, with the bank 10200: no step
        due("P24 no step", v.planSteps(1), 0);
        v.setTap(1, 0);
        // without the bank 10350 + 150 is the most: tap -10 (10312); with it 10200: tap -12 (10175)
        due("P24 twelve steps down", v.planSteps(1), 12);
        planIs(v, 1, -12);
    }

    private static void promise26Undo() {
        FeederControl x = new FeederControl();
        due("P26 nothing saved", x.undo(), NOTHING_SAVED);
        due("P26 counted", x.errorCount(NOTHING_SAVED), 1);
        for (int voltage = 9001; voltage <= 9005; voltage++) {
            x.setSource(voltage);
        }
        due("P26 three are saved", x.undo(), 2);
        due("P26 latest first", x.voltage(0), 9004);
        due("P26 two remain", x.undo(), 1);
        due("P26 then", x.voltage(0), 9003);
        due("P26 one remains", x.undo(), 0);
        due("P26 the oldest were dropped", x.voltage(0), 9002);
        due("P26 none remains", x.undo(), NOTHING_SAVED);
        due("P26 stays", x.voltage(0), 9002);
        x.setSource(9100);
        x.setSource(9200);
        x.undo();
        x.setSource(9300);
        x.setSource(9400);
        due("P26 after an undo", x.undo(), 2);
        due("P26 after an undo", x.voltage(0), 9300);
        due("P26 after an undo", x.undo(), 1);
        due("P26 after an undo", x.voltage(0), 9100);
        due("P26 after an undo", x.undo(), 0);
        due("P26 after an undo", x.voltage(0), 9002);
    }

    private static void promise26WhatIsSaved() {
        FeederControl x = oneNode(0);
        x.addRegulator(1, 10000, 100, 0, 0);
        x.addBank(1, 10, 0, 0, 0, 0);
        swing(x, 3);
        put(x, "1:1;");
        x.append(-1);
        x.setLoad(1, -500, 0);
        x.run(1);
        due("P26 locked", x.isLocked(1), 1);
        due("P26 undo", x.undo(), 2);
        due("P26 the lock is undone", x.isLocked(1), 0);
        due("P26 the run again", x.run(1), 1);
        due("P26 the opposite steps were kept with the state", x.isLocked(1), 1);
        due("P26 the text stays", x.clearText(), 4);
        due("P26 the counters stay", x.errorCount(-2), 1);
        FeederControl turns = oneNode(0);
        turns.addRegulator(1, 10000, 100, 0, 0);
        swing(turns, 3);
        turns.undo();
        due("P26 the second opposite step again", turns.run(1), 1);
        due("P26 it is still the second", turns.isLocked(1), 0);
        FeederControl full = new FeederControl();
        for (int k = 1; k <= 8; k++) {
            full.addNode(0, 0, 10 * k, k);
        }
        full.setLoad(8, 1, 2);
        full.undo();
        due("P26 the 8th node's P", full.activeFlow(8), 10080);
        due("P26 the 8th node's Q", full.reactiveFlow(8), 10008);
        FeederControl y = oneNode(500);
        y.addRegulator(1, 10000, 100, 9, 0);
        y.run(4);
        y.setLoad(1, -500, 0);
        y.run(1);
        y.undo();
        due("P26 the timer is undone", y.timer(1), 4);
        y.run(1);
        due("P26 the wanted direction is undone", y.timer(1), 1);
        FeederControl z = new FeederControl();
        z.addNode(0, 0, 0, 200);
        z.addNode(0, 0, 0, 0);
        z.addBank(1, 150, 2, 0, 120, 3);
        z.run(2);
        z.run(1);
        z.undo();
        due("P26 the bank's timer is undone", z.run(1), 0);
        due("P26 the bank's timer is undone", z.run(1), 1);
        FeederControl w = new FeederControl();
        w.addNode(1, 1, 1, 1);
        w.addRegulator(1, 10000, 100, 0, 0);
        w.addBank(1, 10, 0, 0, 0, 0);
        w.undo();
        w.undo();
        w.undo();
        due("P26 the node is gone", w.voltage(1), OUT_OF_RANGE);
        due("P26 a new one has nothing of the old", w.addNode(0, 0, 0, 0), 1);
        due("P26 no regulator", w.tap(1), MISSING);
        due("P26 no bank", w.isOn(1), MISSING);
    }

    private static void promise27ErrorCount() {
        FeederControl x = new FeederControl();
        for (int code = -6; code <= -2; code++) {
            due("P27 at first", x.errorCount(code), 0);
        }
        for (int bad : new int[] {-7, -1, 0, 2, LEAST, MOST}) {
            due("P27 code " + bad, x.errorCount(bad), OUT_OF_RANGE);
        }
        due("P27 counted", x.errorCount(-2), 6);
        x.undo();
        x.undo();
        due("P27 nothing saved", x.errorCount(-6), 2);
        for (int k = 1; k <= 10; k++) {
            x.addNode(0, 0, 0, 0);
        }
        due("P27 full", x.errorCount(-5), 2);
        x.tap(1);
        x.isOn(1);
        x.planTap(1, 1);
        due("P27 missing", x.errorCount(-4), 3);
        x.addRegulator(1, 10000, 100, 0, 0);
        x.addRegulator(1, 10000, 100, 0, 0);
        due("P27 exists", x.errorCount(-3), 1);
        due("P27 the others stay", x.errorCount(-2), 6);
        due("P27 the constants", FeederControl.OUT_OF_RANGE, -2);
        due("P27 the constants", FeederControl.EXISTS, -3);
        due("P27 the constants", FeederControl.MISSING, -4);
        due("P27 the constants", FeederControl.FULL, -5);
        due("P27 the constants", FeederControl.NOTHING_SAVED, -6);
    }

    private static void promise28Digest() {
        FeederControl x = new FeederControl();
        due("P28 new", x.digest(), hash(0, 0, 0, 0, 0, 0, 0, 10000,
            100, 100, 100, 100, 100, 100, 100, 100, 100, 100, 100, 100,
            100, 100, 100, 100, 100, 100, 100, 100, 100, 100, 100, 100, 0, 0, 0));
        x.addNode(50, 0, 400, 50);
        x.addNode(0, 0, -100, 0);
        x.addRegulator(1, 10000, 10, 1, 0);
        x.addBank(1, 20, 2, 0, 10, 3);
        x.addBank(2, 7, 0, 0, 0, 9);
        x.switchBank(2, 1);
        x.setFactor(23, 99);
        x.setFactor(1, 7);
        put(x, "abc");
        x.append(-1);
        x.tap(2);
        x.addBank(1, 20, 2, 0, 10, 3);
        x.undo();
        due("P28 run", x.run(3), 1);
        due("P28 digest", x.digest(), hash(1, 1, 1, 0, 0, 3, 3, 10000,
            100, 100, 100, 100, 100, 100, 100, 100, 100, 100, 100, 100,
            100, 100, 100, 100, 100, 100, 100, 100, 100, 100, 100, 99, 2,
            9912, 300, 43, 1, 1, 1, 0, 1, 1, 0, 3,
            9912, -100, -7, 0, 1, 1, 0, 0, 3));
        due("P28 it changes nothing", x.digest(), x.digest());
        FeederControl y = oneNode(0);
        y.addRegulator(1, 10000, 100, 0, 0);
        swing(y, 4);
        y.setSource(11000);
        y.run(1);
        due("P28 locked, violations, three saved", y.digest(), hash(0, 0, 0, 0, 0, 0, 5, 11000,
            100, 100, 100, 100, 100, 100, 100, 100, 100, 100, 100, 100,
            100, 100, 100, 100, 100, 100, 100, 100, 100, 100, 100, 100, 1,
            11250, -500, 0, 1, 0, 0, 1, 4, 0, 1, 3));
        y.undo();
        y.undo();
        y.undo();
        y.undo();
        due("P28 nothing saved is counted", y.digest(), hash(0, 0, 0, 0, 1, 0, 3, 10000,
            100, 100, 100, 100, 100, 100, 100, 100, 100, 100, 100, 100,
            100, 100, 100, 100, 100, 100, 100, 100, 100, 100, 100, 100, 1,
            10312, -500, 0, 1, 1, 0, 0, 3, 0, 0, 0));
    }

    private static void examples() {
        FeederControl x = new FeederControl();
        due("E1", x.addNode(10, 20, 300, 100), 1);
        due("E1", x.addNode(15, 10, 200, 150), 2);
        due("E1", x.voltage(1), 9900);
        due("E1", x.voltage(2), 9855);
        due("E1", x.addRegulator(1, 10000, 60, 2, 0), 1);
        due("E1", x.run(2), 0);
        due("E1", x.tap(1), 100);
        due("E1", x.run(1), 1);
        due("E1", x.tap(1), 101);
        due("E1", x.voltage(1), 9962);
        due("E1", x.planSteps(1), 0);
        due("E1", x.planTap(1, 0), 101);
        x = new FeederControl();
        due("E2", x.addNode(0, 10, 0, 200), 1);
        due("E2", x.addBank(1, 150, 2, 0, 120, 1), 1);
        due("E2", x.run(1), 0);
        due("E2", x.isOn(1), 0);
        due("E2", x.run(1), 1);
        due("E2", x.isOn(1), 1);
        due("E2", x.reactiveFlow(1), 10050);
        x = new FeederControl();
        due("E3", x.addNode(0, 20, 0, 250), 1);
        due("E3", x.addBank(1, 200, 1, 22, 6, 0), 1);
        due("E3", x.isOn(1), 0);
        due("E3", x.run(1), 0);
        due("E3", x.isOn(1), 1);
        due("E3", x.run(360), 0);
        due("E3", x.isOn(1), 0);
        x = new FeederControl();
        due("E4", parse(x, "5:40;"), 1);
        due("E4", x.setFactor(5, 100), 40);
        due("E4", x.clearText(), 5);
        due("E4", parse(x, "24:1;"), -10);
        x = new FeederControl();
        due("E5", x.setTap(1, 0), -2);
        due("E5", x.addNode(0, 0, 0, 0), 1);
        due("E5", x.tap(1), -4);
        due("E5", x.undo(), 0);
    }
}
