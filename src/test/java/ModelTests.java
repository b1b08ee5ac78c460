import java.util.ArrayDeque;
import java.util.ArrayList;
import java.util.Arrays;
import java.util.Deque;
import java.util.HashMap;
import java.util.List;
import java.util.Map;
import java.util.TreeMap;

/**
 * Long runs of calls, answered by FeederControl and by a second program written from the document in another way:
 * states are deep copies, the text is read by trying what may stand at each byte, the plan is made forwards with
 * whole rows of taps compared. The runs are the same each time, for the numbers come from a fixed rule.
 */
public final class ModelTests {
    private static final int RUNS = 1200;
    /** Each is followed by a digest, and the document promises nothing about an object after its 512th call. */
    private static final int CALLS = 256;
    private static final int PLANS = 400;

    public static void main(String[] args) {
        int wrong = 0;
        Map<String, Integer> seen = new TreeMap<>();
        for (int run = 0; run < RUNS && wrong < 5; run++) {
            if (!sameAnswers(run, seen)) {
                wrong++;
            }
        }
        for (int plan = 0; plan < PLANS && wrong < 5; plan++) {
            if (!samePlan(plan, seen)) {
                wrong++;
            }
        }
        System.out.println("ModelTests: " + RUNS + " runs, " + PLANS + " plans, " + wrong + " wrong; seen " + seen);
        for (String event : new String[] {"step", "locked", "violations", "bank switched", "plan with steps", "no plan",
            "plan up and down", "profile", "syntax error", "undo", "nothing saved", "full", "exists", "missing", "reverse"}) {
            if (seen.getOrDefault(event, 0) < 20) {
                System.out.println("the runs no longer reach '" + event + "' often enough");
                wrong++;
            }
        }
        if (wrong != 0) {
            System.exit(1);
        }
    }

    // ---- the runs

    private static final class Numbers {
        private long state;

        Numbers(long seed) {
            state = seed * 7919 + 17;
        }

        int below(int bound) {
            state = state * 6364136223846793005L + 1442695040888963407L;
            return (int) ((state >>> 33) % bound);
        }

        int between(int low, int high) {
            return low + below(high - low + 1);
        }

        boolean oneIn(int n) {
            return below(n) == 0;
        }

        /** Mostly a number in the range, often at its ends, sometimes outside. */
        int near(int low, int high) {
            switch (below(24)) {
                case 0: return low;
                case 1: return high;
                case 2: return oneIn(3) ? low - 1 : low;
                case 3: return oneIn(3) ? high + 1 : high;
                case 4: return oneIn(8) ? Integer.MIN_VALUE : low;
                case 5: return oneIn(8) ? Integer.MAX_VALUE : high;
                default: return between(low, high);
            }
        }
    }

    private static final String[] ITEMS = {"5:40;", "0-23:%d;", "%h-%h:%d;", " %h : %d ;", "0%h - 23 : 0%d;", "%h:%d",
        "%h-%h:%d;", "%h:%d;", "x", "-", "%d:%d;", "0005:1;", "%h:0001;", "%h %h:1;", "%h:%d;%h", " ", ":", ";"};

    private static String someText(Numbers n) {
        StringBuilder text = new StringBuilder();
        int items = n.below(5);
        for (int i = 0; i < items; i++) {
            String item = ITEMS[n.oneIn(3) ? n.below(ITEMS.length) : n.below(5)];
            while (item.contains("%h")) {
                item = item.replaceFirst("%h", "" + n.between(0, n.oneIn(6) ? 26 : 23));
            }
            while (item.contains("%d")) {
                item = item.replaceFirst("%d", "" + n.between(0, n.oneIn(6) ? 250 : 200));
            }
            text.append(item);
        }
        return text.toString();
    }

    private static boolean sameAnswers(int run, Map<String, Integer> seen) {
        Numbers n = new Numbers(run);
        FeederControl x = new FeederControl();
        Model m = new Model();
        StringBuilder log = new StringBuilder();
        String waiting = "";
        int calm = n.below(3);
        for (int call = 0; call < CALLS; call++) {
            String name;
            int[] a;
            if (!waiting.isEmpty()) {
                int c = waiting.charAt(0);
                waiting = waiting.substring(1);
                name = c == '!' ? "parseProfile" : c == '#' ? "clearText" : "append";
                a = new int[] {c};
            } else {
                name = NAMES[n.below(NAMES.length)];
                if (name.equals("text")) {
                    waiting = "#" + someText(n) + "!";
                    continue;
                }
                a = arguments(name, n, m, calm);
            }
            long got = ask(x, name, a);
            long want = m.answer(name, a);
            count(seen, name, a, want, m);
            log.append(name).append(Arrays.toString(a)).append(" = ").append(want).append('\n');
            long gotDigest = x.digest();
            long wantDigest = m.digest();
            if (got != want || gotDigest != wantDigest) {
                System.out.println("run " + run + ", call " + call + ": " + name + Arrays.toString(a)
                    + " answered " + got + ", due is " + want + (gotDigest != wantDigest ? ", and the digest differs" : "")
                    + ", after\n" + log);
                return false;
            }
        }
        return true;
    }

    /** A feeder whose voltages change much over the day, so that its plans have to move. */
    private static boolean samePlan(int number, Map<String, Integer> seen) {
        Numbers n = new Numbers(1000003L + number);
        FeederControl x = new FeederControl();
        Model m = new Model();
        int nodes = n.between(1, 4);
        int segment = n.oneIn(3) ? n.between(1, nodes) : 1;
        both(x, m, "setSource", n.between(9700, 10300));
        for (int k = 1; k <= nodes; k++) {
            both(x, m, "addNode", k == 1 ? n.between(20, 50) : n.below(6), k == 1 ? n.between(20, 50) : n.below(6),
                n.between(0, 500), n.between(0, 300));
            if (n.oneIn(2)) {
                both(x, m, "addBank", k, n.between(50, 300), n.between(0, 1), n.below(24), n.below(24), 0);
                both(x, m, "switchBank", k, n.below(2));
            }
            if (k == segment || n.oneIn(3)) {
                both(x, m, "addRegulator", k, 10000, 100, 0, 0);
                both(x, m, "setTap", k, k == segment ? n.between(-16, 16) : n.between(-3, 3));
            }
        }
        for (int hour = 0; hour < 24; hour++) {
            both(x, m, "setFactor", hour, n.oneIn(3) ? n.between(0, 200) : n.between(60, 90));
        }
        boolean same = both(x, m, "planSteps", segment);
        boolean up = false;
        boolean down = false;
        for (int hour = 0; hour < 24; hour++) {
            same &= both(x, m, "planTap", segment, hour);
            long change = m.answer("planTap", new int[] {segment, hour})
                - m.answer("planTap", new int[] {segment, Math.max(0, hour - 1)});
            up |= change > 0;
            down |= change < 0;
        }
        seen.merge("plan up and down", up && down ? 1 : 0, Integer::sum);
        return same;
    }

    private static boolean both(FeederControl x, Model m, String name, int... a) {
        long got = ask(x, name, a);
        long want = m.answer(name, a);
        if (got != want) {
            System.out.println(name + Arrays.toString(a) + " answered " + got + ", due is " + want);
        }
        return got == want;
    }

    private static void count(Map<String, Integer> seen, String name, int[] a, long answer, Model m) {
        if (name.equals("run") && answer > 0) {
            seen.merge("step", 1, Integer::sum);
        }
        if (name.equals("isLocked") && answer == 1) {
            seen.merge("locked", 1, Integer::sum);
        }
        if (name.equals("violations") && answer > 0) {
            seen.merge("violations", 1, Integer::sum);
        }
        if (name.equals("planSteps") || name.equals("planTap")) {
            seen.merge(answer == -4 && m.regulatorAt(a[0]) ? "no plan" : answer > 0 ? "plan with steps" : "plan", 1,
                Integer::sum);
        }
        if (name.equals("parseProfile")) {
            seen.merge(answer < 0 ? "syntax error" : "profile", 1, Integer::sum);
        } else if (answer <= -2 && answer >= -6) {
            seen.merge(new String[] {"out of range", "exists", "missing", "full", "nothing saved"}[(int) (-2 - answer)], 1,
                Integer::sum);
        } else if (name.equals("undo")) {
            seen.merge("undo", 1, Integer::sum);
        }
        seen.merge("bank switched", m.bankSwitched, Integer::sum);
        seen.merge("reverse", m.reversed, Integer::sum);
        m.bankSwitched = 0;
        m.reversed = 0;
    }

    private static final String[] NAMES = {"setSource", "addNode", "addNode", "setLoad", "setLoad", "setLoad", "setFactor",
        "append", "text", "clearText", "parseProfile", "addRegulator", "addRegulator", "setTap", "addBank", "addBank",
        "switchBank", "run", "run", "run", "run", "run", "run", "minute", "voltage", "voltage", "activeFlow",
        "reactiveFlow", "tap", "timer", "isLocked", "isLocked", "steps", "isOn", "violations", "planSteps", "planTap",
        "planTap", "undo", "undo", "errorCount", "digest"};

    private static int[] arguments(String name, Numbers n, Model m, int calm) {
        int node = n.oneIn(12) ? n.near(0, 9) : n.between(1, Math.max(1, m.now.nodes.size()));
        int load = calm == 0 ? 500 : calm == 1 ? 200 : 60;
        switch (name) {
            case "setSource": return new int[] {n.oneIn(2) ? n.near(9000, 11000) : n.between(9900, 10100)};
            case "addNode": return new int[] {n.near(0, 50), n.near(0, 50), n.oneIn(4) ? n.near(-500, 500)
                : n.between(-load, load), n.oneIn(4) ? n.near(-300, 300) : n.between(-load / 2, load / 2)};
            case "setLoad": return new int[] {node, n.oneIn(4) ? n.near(-500, 500) : n.between(-load, load),
                n.oneIn(4) ? n.near(-300, 300) : n.between(-load / 2, load / 2)};
            case "setFactor": return new int[] {n.near(0, 23), n.near(0, 200)};
            case "append": return new int[] {n.near(0, 127)};
            case "addRegulator": return new int[] {node, n.oneIn(3) ? n.near(9000, 11000) : n.between(9900, 10100),
                n.oneIn(3) ? n.near(10, 500) : n.between(10, 60), n.oneIn(3) ? n.near(0, 30) : n.between(0, 3),
                n.near(0, 1)};
            case "setTap": return new int[] {node, n.near(-16, 16)};
            case "addBank": return someBank(node, n);
            case "switchBank": return new int[] {node, n.near(0, 1)};
            case "run": return new int[] {n.oneIn(10) ? n.near(0, 1440) : n.oneIn(3) ? n.between(30, 90) : n.between(1, 6)};
            case "voltage": return new int[] {node - n.below(2)};
            case "planTap": return new int[] {node, n.near(0, 23)};
            case "errorCount": return new int[] {n.near(-6, -2)};
            case "clearText": case "parseProfile": case "minute": case "violations": case "undo": case "digest":
                return new int[0];
            default: return new int[] {node};
        }
    }

    private static int[] someBank(int node, Numbers n) {
        int mode = n.near(0, 2);
        int delay = n.oneIn(3) ? n.near(0, 30) : n.between(0, 3);
        if (mode == 1) {
            return new int[] {node, n.near(1, 300), mode, n.near(0, 23), n.near(0, 23), delay};
        }
        if (mode == 2 && !n.oneIn(4)) {
            int a = n.between(-200, 100);
            return new int[] {node, n.near(1, 300), mode, a, a + n.near(1, 200), delay};
        }
        return new int[] {node, n.near(1, 300), mode, n.near(-3000, 3000), n.near(-3000, 3000), delay};
    }

    private static long ask(FeederControl x, String name, int[] a) {
        switch (name) {
            case "setSource": return x.setSource(a[0]);
            case "addNode": return x.addNode(a[0], a[1], a[2], a[3]);
            case "setLoad": return x.setLoad(a[0], a[1], a[2]);
            case "setFactor": return x.setFactor(a[0], a[1]);
            case "append": return x.append(a[0]);
            case "clearText": return x.clearText();
            case "parseProfile": return x.parseProfile();
            case "addRegulator": return x.addRegulator(a[0], a[1], a[2], a[3], a[4]);
            case "setTap": return x.setTap(a[0], a[1]);
            case "addBank": return x.addBank(a[0], a[1], a[2], a[3], a[4], a[5]);
            case "switchBank": return x.switchBank(a[0], a[1]);
            case "run": return x.run(a[0]);
            case "minute": return x.minute();
            case "voltage": return x.voltage(a[0]);
            case "activeFlow": return x.activeFlow(a[0]);
            case "reactiveFlow": return x.reactiveFlow(a[0]);
            case "tap": return x.tap(a[0]);
            case "timer": return x.timer(a[0]);
            case "isLocked": return x.isLocked(a[0]);
            case "steps": return x.steps(a[0]);
            case "isOn": return x.isOn(a[0]);
            case "violations": return x.violations();
            case "planSteps": return x.planSteps(a[0]);
            case "planTap": return x.planTap(a[0], a[1]);
            case "undo": return x.undo();
            case "errorCount": return x.errorCount(a[0]);
            default: return x.digest();
        }
    }

    // ---- the second program

    private static final class Device implements Cloneable {
        int center, band, delay, reverse, tap, timer, steps, lastWish, lastStep, turns;
        boolean locked;
        int size, mode, a, b;
        boolean on;

        Device copy() {
            try {
                return (Device) clone();
            } catch (CloneNotSupportedException e) {
                throw new IllegalStateException(e);
            }
        }
    }

    private static final class Place {
        int r, x, p, q;
        Device regulator, bank;

        Place copy() {
            Place c = new Place();
            c.r = r;
            c.x = x;
            c.p = p;
            c.q = q;
            c.regulator = regulator == null ? null : regulator.copy();
            c.bank = bank == null ? null : bank.copy();
            return c;
        }
    }

    private static final class Snapshot {
        int minutes, violations, source = 10000;
        final int[] factors = new int[24];
        final List<Place> nodes = new ArrayList<>();

        Snapshot copy() {
            Snapshot c = new Snapshot();
            c.minutes = minutes;
            c.violations = violations;
            c.source = source;
            System.arraycopy(factors, 0, c.factors, 0, 24);
            for (Place p : nodes) {
                c.nodes.add(p.copy());
            }
            return c;
        }
    }

    private static final class Model {
        Snapshot now = new Snapshot();
        final Deque<Snapshot> saved = new ArrayDeque<>();
        final Map<Integer, Integer> errors = new HashMap<>();
        String text = "";
        int bankSwitched = 0;
        int reversed = 0;

        Model() {
            Arrays.fill(now.factors, 100);
        }

        long answer(String name, int[] a) {
            Snapshot before = now.copy();
            long answer = reply(name, a);
            boolean error = answer <= -2 && answer >= -6;
            if (error) {
                errors.merge((int) answer, 1, Integer::sum);
            }
            boolean undoable = name.startsWith("set") || name.startsWith("add") || name.equals("switchBank")
                || name.equals("run") || name.equals("parseProfile");
            if (undoable && answer >= 0) {
                saved.addLast(before);
                if (saved.size() > 3) {
                    saved.removeFirst();
                }
            }
            return answer;
        }

        private long reply(String name, int[] a) {
            switch (name) {
                case "setSource": return setSource(a[0]);
                case "addNode": return addNode(a);
                case "setLoad": return setLoad(a);
                case "setFactor": return setFactor(a);
                case "append": return append(a[0]);
                case "clearText": return clear();
                case "parseProfile": return parse();
                case "addRegulator": return addRegulator(a);
                case "setTap": return setTap(a);
                case "addBank": return addBank(a);
                case "switchBank": return switchBank(a);
                case "run": return run(a[0]);
                case "minute": return now.minutes;
                case "voltage": return a[0] < 0 || a[0] > now.nodes.size() ? -2
                    : voltages(now, hour(), 0, 0, false)[a[0]];
                case "activeFlow": return place(a[0]) == null ? -2 : 10000 + active(now, a[0], hour());
                case "reactiveFlow": return place(a[0]) == null ? -2 : 10000 + reactive(now, a[0], hour(), false);
                case "planSteps": case "planTap": return planned(a);
                case "violations": return now.violations;
                case "undo": return undo();
                case "errorCount": return a[0] < -6 || a[0] > -2 ? -2 : errors.getOrDefault(a[0], 0);
                case "digest": return digest();
                case "isOn": return place(a[0]) == null ? -2 : place(a[0]).bank == null ? -4 : place(a[0]).bank.on ? 1 : 0;
                default: return regulatorValue(name, a[0]);
            }
        }

        boolean regulatorAt(int k) {
            return place(k) != null && place(k).regulator != null;
        }

        private int regulatorValue(String name, int k) {
            if (place(k) == null) {
                return -2;
            }
            Device d = place(k).regulator;
            if (d == null) {
                return -4;
            }
            switch (name) {
                case "tap": return 100 + d.tap;
                case "timer": return d.timer;
                case "steps": return d.steps;
                default: return d.locked ? 1 : 0;
            }
        }

        private Place place(int k) {
            return k < 1 || k > now.nodes.size() ? null : now.nodes.get(k - 1);
        }

        private int hour() {
            return now.minutes / 60 % 24;
        }

        private static boolean out(int v, int low, int high) {
            return v < low || v > high;
        }

        private int setSource(int v) {
            if (out(v, 9000, 11000)) {
                return -2;
            }
            int old = now.source;
            now.source = v;
            return old;
        }

        private int addNode(int[] a) {
            if (out(a[0], 0, 50) || out(a[1], 0, 50) || out(a[2], -500, 500) || out(a[3], -300, 300)) {
                return -2;
            }
            if (now.nodes.size() == 8) {
                return -5;
            }
            Place p = new Place();
            p.r = a[0];
            p.x = a[1];
            p.p = a[2];
            p.q = a[3];
            now.nodes.add(p);
            return now.nodes.size();
        }

        private int setLoad(int[] a) {
            Place p = place(a[0]);
            if (p == null || out(a[1], -500, 500) || out(a[2], -300, 300)) {
                return -2;
            }
            p.p = a[1];
            p.q = a[2];
            return 1;
        }

        private int setFactor(int[] a) {
            if (out(a[0], 0, 23) || out(a[1], 0, 200)) {
                return -2;
            }
            int old = now.factors[a[0]];
            now.factors[a[0]] = a[1];
            return old;
        }

        private int append(int c) {
            if (out(c, 0, 127)) {
                return -2;
            }
            if (text.length() == 120) {
                return -5;
            }
            text += (char) c;
            return text.length();
        }

        private int clear() {
            int old = text.length();
            text = "";
            return old;
        }

        private int addRegulator(int[] a) {
            Place p = place(a[0]);
            if (p == null || out(a[1], 9000, 11000) || out(a[2], 10, 500) || out(a[3], 0, 30) || out(a[4], 0, 1)) {
                return -2;
            }
            if (p.regulator != null) {
                return -3;
            }
            Device d = new Device();
            d.center = a[1];
            d.band = a[2];
            d.delay = a[3];
            d.reverse = a[4];
            p.regulator = d;
            return 1;
        }

        private int setTap(int[] a) {
            Place p = place(a[0]);
            if (p == null || out(a[1], -16, 16)) {
                return -2;
            }
            if (p.regulator == null) {
                return -4;
            }
            int old = p.regulator.tap;
            p.regulator.tap = a[1];
            return 100 + old;
        }

        private int addBank(int[] a) {
            Place p = place(a[0]);
            if (p == null || out(a[1], 1, 300) || out(a[2], 0, 2) || out(a[5], 0, 30)) {
                return -2;
            }
            if (a[2] == 1 && (out(a[3], 0, 23) || out(a[4], 0, 23))) {
                return -2;
            }
            if (a[2] == 2 && (out(a[3], -3000, 3000) || out(a[4], -3000, 3000) || a[3] >= a[4])) {
                return -2;
            }
            if (p.bank != null) {
                return -3;
            }
            Device d = new Device();
            d.size = a[1];
            d.mode = a[2];
            d.a = a[3];
            d.b = a[4];
            d.delay = a[5];
            p.bank = d;
            return 1;
        }

        private int switchBank(int[] a) {
            Place p = place(a[0]);
            if (p == null || out(a[1], 0, 1)) {
                return -2;
            }
            if (p.bank == null) {
                return -4;
            }
            int old = p.bank.on ? 1 : 0;
            p.bank.on = a[1] == 1;
            return old;
        }

        private int undo() {
            if (saved.isEmpty()) {
                return -6;
            }
            now = saved.removeLast();
            return saved.size();
        }

        // ---- flows and voltages, each value worked out anew from its own sum

        private static int active(Snapshot s, int k, int hour) {
            int sum = 0;
            for (int j = k; j <= s.nodes.size(); j++) {
                sum += s.nodes.get(j - 1).p * s.factors[hour] / 100;
            }
            return sum;
        }

        private static boolean byTime(Device bank, int hour) {
            for (int h = bank.a, n = bank.a == bank.b ? 24 : Math.floorMod(bank.b - bank.a, 24); n > 0; n--, h++) {
                if (h % 24 == hour) {
                    return true;
                }
            }
            return false;
        }

        private static int reactive(Snapshot s, int k, int hour, boolean planned) {
            int sum = 0;
            for (int j = k; j <= s.nodes.size(); j++) {
                Place n = s.nodes.get(j - 1);
                sum += n.q * s.factors[hour] / 100;
                if (n.bank != null && (planned && n.bank.mode == 1 ? byTime(n.bank, hour) : n.bank.on)) {
                    sum -= n.bank.size;
                }
            }
            return sum;
        }

        private static int[] voltages(Snapshot s, int hour, int segment, int tap, boolean planned) {
            int[] v = new int[s.nodes.size() + 1];
            v[0] = s.source;
            for (int k = 1; k < v.length; k++) {
                Place n = s.nodes.get(k - 1);
                int w = v[k - 1];
                if (n.regulator != null) {
                    w = Math.floorDiv(w * (160 + (k == segment ? tap : n.regulator.tap)), 160);
                }
                v[k] = Math.max(0, w - (n.r * active(s, k, hour) + n.x * reactive(s, k, hour, planned)) / 100);
            }
            return v;
        }

        private static int bad(int[] v) {
            int bad = 0;
            for (int k = 1; k < v.length; k++) {
                bad += out(v[k], 9500, 10500) ? 1 : 0;
            }
            return bad;
        }

        // ---- running

        private int run(int minutes) {
            if (out(minutes, 0, 1440)) {
                return -2;
            }
            int moves = 0;
            for (int i = 0; i < minutes; i++) {
                moves += oneMinute();
            }
            return moves;
        }

        private int oneMinute() {
            now.minutes++;
            for (Place n : now.nodes) {
                if (n.regulator != null && now.minutes % 60 == 0) {
                    n.regulator.locked = false;
                    n.regulator.turns = 0;
                }
                if (n.bank != null && n.bank.mode == 1) {
                    n.bank.on = byTime(n.bank, hour());
                }
            }
            int[] v = voltages(now, hour(), 0, 0, false);
            int[] p = new int[v.length];
            int[] q = new int[v.length];
            for (int k = 1; k < v.length; k++) {
                p[k] = active(now, k, hour());
                q[k] = reactive(now, k, hour(), false);
            }
            Device dueBank = dueBank(q);
            Device dueRegulator = dueRegulator(v, p);
            int moves = 0;
            if (dueBank != null) {
                dueBank.on = !dueBank.on;
                dueBank.timer = 0;
                bankSwitched++;
                moves = 1;
            } else if (dueRegulator != null) {
                step(dueRegulator);
                moves = 1;
            }
            now.violations += bad(voltages(now, hour(), 0, 0, false));
            return moves;
        }

        private Device dueBank(int[] q) {
            Device due = null;
            for (int k = now.nodes.size(); k >= 1; k--) {
                Device b = now.nodes.get(k - 1).bank;
                if (b == null || b.mode != 2) {
                    continue;
                }
                boolean wants = !b.on && q[k] > b.b || b.on && q[k] < b.a;
                b.timer = wants ? b.timer + 1 : 0;
                if (wants && b.timer > b.delay) {
                    due = b;
                }
            }
            return due;
        }

        private Device dueRegulator(int[] v, int[] p) {
            Device due = null;
            for (int k = now.nodes.size(); k >= 1; k--) {
                Device d = now.nodes.get(k - 1).regulator;
                if (d == null) {
                    continue;
                }
                int wish = 0;
                if (v[k] < d.center - d.band && d.tap < 16) {
                    wish = 1;
                }
                if (v[k] > d.center + d.band && d.tap > -16) {
                    wish = -1;
                }
                if (d.reverse == 1 && p[k] < 0) {
                    reversed += wish != 0 ? 1 : 0;
                    wish = 0;
                }
                if (d.locked) {
                    wish = 0;
                }
                if (wish == 0) {
                    d.timer = 0;
                } else if (d.lastWish == 0 || d.lastWish == wish) {
                    d.timer++;
                } else {
                    d.timer = 1;
                }
                d.lastWish = wish;
                if (wish != 0 && d.timer > d.delay) {
                    due = d;
                }
            }
            return due;
        }

        private static void step(Device d) {
            d.tap += d.lastWish;
            d.steps++;
            d.timer = 0;
            if (d.lastStep != 0 && d.lastStep != d.lastWish) {
                d.turns++;
                if (d.turns == 3) {
                    d.locked = true;
                }
            }
            d.lastStep = d.lastWish;
            d.lastWish = 0;
        }

        // ---- the plan: for each tap of an hour the best row of taps that ends there

        private long planned(int[] a) {
            if (place(a[0]) == null || a.length > 1 && out(a[1], 0, 23)) {
                return -2;
            }
            Device d = place(a[0]).regulator;
            if (d == null) {
                return -4;
            }
            int[] plan = bestPlan(a[0], d.tap);
            if (plan == null) {
                return -4;
            }
            return a.length > 1 ? 100 + plan[a[1]] : length(plan, d.tap);
        }

        private static int length(int[] taps, int from) {
            int sum = 0;
            for (int t : taps) {
                sum += Math.abs(t - from);
                from = t;
            }
            return sum;
        }

        private static boolean better(int[] a, int[] b, int from) {
            if (b == null || length(a, from) != length(b, from)) {
                return b == null || length(a, from) < length(b, from);
            }
            return Arrays.compare(a, b) < 0;
        }

        private int[] bestPlan(int segment, int from) {
            List<int[]> rows = new ArrayList<>();
            rows.add(new int[0]);
            for (int hour = 0; hour < 24; hour++) {
                List<int[]> next = new ArrayList<>();
                for (int tap = -16; tap <= 16; tap++) {
                    if (bad(voltages(now, hour, segment, tap, true)) != 0) {
                        continue;
                    }
                    int[] best = null;
                    for (int[] row : rows) {
                        int[] longer = Arrays.copyOf(row, hour + 1);
                        longer[hour] = tap;
                        if (better(longer, best, from)) {
                            best = longer;
                        }
                    }
                    if (best != null) {
                        next.add(best);
                    }
                }
                rows = next;
            }
            int[] best = null;
            for (int[] row : rows) {
                if (better(row, best, from)) {
                    best = row;
                }
            }
            return best;
        }

        // ---- the profile text: a state for what may come next, a byte at a time

        private int parse() {
            int[] factors = now.factors.clone();
            int items = 0;
            int first = 0;
            int last = 0;
            String digits = "";
            int start = 0;
            // 0 first hour, 1 second hour, 2 factor; and whether the number is over
            int part = 0;
            boolean over = false;
            for (int i = 0; i <= text.length(); i++) {
                char c = i < text.length() ? text.charAt(i) : '\n';
                if (c >= '0' && c <= '9' && !over) {
                    if (digits.length() == 3) {
                        return -10 - i;
                    }
                    start = digits.isEmpty() ? i : start;
                    digits += c;
                    continue;
                }
                if (!digits.isEmpty() && !over) {
                    int number = Integer.parseInt(digits);
                    if (number > (part == 2 ? 200 : 23) || part == 1 && number < first) {
                        return -10 - start;
                    }
                    over = true;
                    if (part == 0) {
                        first = number;
                    }
                    last = part < 2 ? number : last;
                }
                if (c == ' ') {
                    continue;
                }
                if (i == text.length() && part == 0 && digits.isEmpty()) {
                    break;
                }
                boolean dash = c == '-' && part == 0;
                boolean colon = c == ':' && part < 2;
                boolean semicolon = c == ';' && part == 2;
                if (!over || !(dash || colon || semicolon)) {
                    return -10 - i;
                }
                if (semicolon) {
                    Arrays.fill(factors, first, last + 1, Integer.parseInt(digits));
                    items++;
                }
                part = dash ? 1 : colon ? 2 : 0;
                over = false;
                digits = "";
            }
            System.arraycopy(factors, 0, now.factors, 0, 24);
            return items;
        }

        // ---- the digest, from a row of values

        long digest() {
            List<Integer> row = new ArrayList<>();
            for (int code = -2; code >= -6; code--) {
                row.add(errors.getOrDefault(code, 0));
            }
            row.add(text.length());
            row.add(now.minutes);
            row.add(now.source);
            for (int f : now.factors) {
                row.add(f);
            }
            row.add(now.nodes.size());
            int[] v = voltages(now, hour(), 0, 0, false);
            for (int k = 1; k < v.length; k++) {
                row.add(v[k]);
                row.add(active(now, k, hour()));
                row.add(reactive(now, k, hour(), false));
                Place n = now.nodes.get(k - 1);
                row.add(n.regulator == null ? 0 : 1);
                if (n.regulator != null) {
                    row.addAll(List.of(n.regulator.tap, n.regulator.timer, n.regulator.locked ? 1 : 0, n.regulator.steps));
                }
                row.add(n.bank == null ? 0 : 1);
                if (n.bank != null) {
                    row.addAll(List.of(n.bank.on ? 1 : 0, n.bank.timer));
                }
            }
            row.add(now.violations);
            row.add(saved.size());
            long h = 2749;
            for (int value : row) {
                h = 31 * h + value;
            }
            return h;
        }
    }
}
