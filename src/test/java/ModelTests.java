import java.lang.reflect.Array;
import java.util.ArrayList;
import java.util.List;
import java.util.regex.Matcher;
import java.util.regex.Pattern;

/**
 * Long told runs of calls, each answered by CliffCars and by a second, slow writing of the document:
 * faults by a regular expression, E by cutting its text, LEAST by trying every amount, BEST by trying every day,
 * ACTS by Java's own classes, tapes by Java's own arrays. No randomness: the runs follow from their numbers.
 */
public final class ModelTests {
    private static final int RUNS = 800;
    private static final int CALLS = 512;

    private static int wrong = 0;

    public static void main(String[] args) {
        int[] seen = new int[40];
        for (int run = 0; run < RUNS && wrong < 20; run++) {
            new Run(run, seen).go();
        }
        for (int k = 0; k < Run.SORTS; k++) {
            if (seen[k] < 100) {
                wrong++;
                System.out.println("call " + k + " had only " + seen[k] + " answers that refuse nothing");
            }
        }
        System.out.println(wrong == 0 ? "all answers are as the model's" : wrong + " answers are not as the model's");
        if (wrong != 0) {
            System.exit(1);
        }
    }

    /** One object, one model, and a row of calls to both. */
    private static final class Run {
        static final int SORTS = 31;

        final int number;
        final int[] seen;
        final CliffCars x = new CliffCars();
        final Model m = new Model();
        final StringBuilder calls = new StringBuilder();
        long seed;
        int made = 0;

        Run(int number, int[] seen) {
            this.number = number;
            this.seen = seen;
            this.seed = 1000003L * number + 12345;
        }

        int pick(int n) {
            seed = seed * 6364136223846793005L + 1442695040888963407L;
            return (int) ((seed >>> 33) % n);
        }

        /** Mostly in 0 .. most, now and then beyond. */
        int some(int most) {
            int r = pick(40);
            if (r == 0) {
                return -1;
            }
            if (r == 1) {
                return most + 1;
            }
            if (r == 2) {
                int[] far = {Integer.MIN_VALUE, Integer.MAX_VALUE, -2, most + 10, 1000};
                return far[pick(far.length)];
            }
            return pick(most + 1);
        }

        void due(int sort, String call, long got, long want) {
            made++;
            if (want >= 0 || want == -5) {
                seen[sort]++;
            }
            calls.append(call).append(" = ").append(want).append('\n');
            if (got != want) {
                wrong++;
                System.out.println("run " + number + ", call " + made + ": " + call + " answered " + got
                    + ", the model " + want + "\n" + calls.substring(Math.max(0, calls.length() - 2000)));
            }
        }

        void go() {
            if (number % 10 != 0) {
                setUp();
            }
            while (made < CALLS - 50 && wrong == 0) {
                call(pick(made % 2 == 0 ? 100 : 75));
            }
        }

        /** A cliff, a crowd, water, and a RULE of nearly every KIND. */
        void setUp() {
            for (int k = 0; k < 3 && m.here() == null; k++) {
                readText();
            }
            for (int k = 0; k < 14; k++) {
                int a = pick(12), s = pick(3) == 0 ? 0 : 1, n = 1 + pick(6);
                due(9, "come(" + a + ", " + s + ", " + n + ")", x.come(a, s, n), m.come(a, s, n));
            }
            for (int t = 0; t < 5; t++) {
                int sort = t < 2 ? 2 : pick(5), n = 4 + pick(20);
                due(27, "tape(" + t + ", " + sort + ", " + n + ")", x.tape(t, sort, n), m.tape(t, sort, n));
            }
            int water = m.here() == null ? 0 : pick(m.of(6) + 1);
            due(11, "pond(" + water + ")", x.pond(water), m.pond(water));
            for (int k = 0; k < 9; k++) {
                int kind = (k + number) % 7, v = pick(kind == 5 ? 8 : 21);
                due(12, "rule(" + kind + ", " + v + ")", x.rule(kind, v), m.rule(kind, v));
                for (int j = pick(16); kind == 6 && j > 0; j--) {
                    int n = pick(2);
                    due(13, "row(" + k + ", " + n + ")", x.row(k, n), m.row(k, n));
                }
            }
        }

        void readText() {
            if (!m.text.isEmpty() && pick(8) != 0) {
                due(1, "cliff()", x.cliff(), m.cliff());
            }
            String t = new Texts(this).text();
            int k = 0;
            while (k < t.length()) {
                int n = Math.min(t.length() - k, 1 + pick(4));
                int bytes = pick(2) == 0 ? 0 : pick(1 << 30);
                for (int j = 0; j < n; j++) {
                    bytes = bytes << 8 | t.charAt(k + j) & 255;
                }
                due(0, "feed(" + bytes + ", " + n + ")", x.feed(bytes, n), m.feed(bytes, n));
                k += n;
            }
            due(1, "cliff() of " + t, x.cliff(), m.cliff());
        }

        void call(int r) {
            if (r < 3) {
                readText();
            } else if (r < 25) {
                ofLoads(r);
            } else if (r < 60) {
                ofDays(r);
            } else if (r < 72) {
                ofBest(r);
            } else {
                ofRest(r);
            }
        }

        void ofLoads(int r) {
            int a = some(11), b = some(6), c = some(6), d = some(30);
            if (r < 5) {
                int n = some(4);
                due(0, "feed(" + d + ", " + n + ")", x.feed(d, n), m.feed(d, n));
            } else if (r < 7) {
                int k = some(3);
                due(2, "choose(" + k + ")", x.choose(k), m.choose(k));
            } else if (r < 9) {
                int k = some(15);
                due(3, "of(" + k + ")", x.of(k), m.of(k));
            } else if (r < 12) {
                int k = some(1);
                due(4, "told(" + k + ", " + a + ")", x.told(k, a), m.told(k, a));
            } else if (r < 14) {
                int k = some(4);
                due(5, "pull(" + k + ", " + a + ", " + b + ", " + c + ", " + d + ")",
                    x.pull(k, a, b, c, d), m.pull(k, a, b, c, d));
            } else if (r < 18) {
                int w = pick(2) == 0 ? some(99) : some(30);
                due(6, "stops(" + a + ", " + b + ", " + c + ", " + w + ")", x.stops(a, b, c, w), m.stops(a, b, c, w));
            } else if (r < 22) {
                due(7, "least(" + a + ", " + b + ", " + c + ")", x.least(a, b, c), m.least(a, b, c));
            } else {
                due(8, "jump(" + a + ", " + b + ", " + c + ")", x.jump(a, b, c), m.jump(a, b, c));
            }
        }

        void ofDays(int r) {
            if (r < 38) {
                int a = some(11), s = some(1), n = some(6);
                due(9, "come(" + a + ", " + s + ", " + n + ")", x.come(a, s, n), m.come(a, s, n));
            } else if (r < 40) {
                boolean so = pick(2) == 0;
                due(10, "wet(" + so + ")", x.wet(so), m.wet(so));
            } else if (r < 43) {
                int n = some(pick(2) == 0 ? 20 : 40);
                due(11, "pond(" + n + ")", x.pond(n), m.pond(n));
            } else if (r < 46) {
                int k = some(6), v = some(20);
                due(12, "rule(" + k + ", " + v + ")", x.rule(k, v), m.rule(k, v));
            } else if (r < 49) {
                int k = some(11), n = some(1);
                due(13, "row(" + k + ", " + n + ")", x.row(k, n), m.row(k, n));
            } else {
                int k = some(Math.max(0, m.rules.size() - 1)), w = pick(3) == 0 ? some(21) : some(5);
                due(14, "day(" + k + ", " + w + ")", x.day(k, w), m.day(k, w));
            }
        }

        void ofBest(int r) {
            if (r < 64) {
                int s = some(11), p = some(pick(9) == 0 ? 40 : Math.max(0, m.of(6))), a = some(8), b = some(8), w = some(1);
                due(15, "waits(" + s + ", " + p + ", " + a + ", " + b + ", " + w + ")",
                    x.waits(s, p, a, b, w), m.waits(s, p, a, b, w));
            } else if (r < 66) {
                due(16, "bell()", x.bell(), m.bell());
            } else if (r < 67) {
                due(17, "whit()", x.whit(), m.whit());
            } else if (r < 70) {
                int s = some(3), z = some(20), p = some(99);
                due(18, "offer(" + s + ", " + z + ", " + p + ")", x.offer(s, z, p), m.offer(s, z, p));
            } else if (made % 3 == 0) {
                int p = pick(2) == 0 ? some(200) : some(999);
                due(19, "buy(" + p + ")", x.buy(p), m.buy(p));
            }
        }

        void ofRest(int r) {
            int t = some(5), i = some(pick(3) == 0 ? 59 : 5);
            if (r < 76) {
                int j = pick(3) == 0 ? i : 0;
                due(20, "judge(" + t + ", " + j + ")", x.judge(t, j), m.judge(t, j));
            } else if (r < 77) {
                due(21, "image()", x.image(), m.image());
            } else if (r < 78) {
                due(22, "undo()", x.undo(), m.undo());
            } else if (r < 81) {
                int k = some(11), a = some(2), v = pick(4) == 0 ? (int) (seed >>> 20) : some(50);
                due(23, "act(" + k + ", " + a + ", " + v + ")", x.act(k, a, v), m.act(k, a, v));
                for (int j = 0; j < 3 && j < m.trace.size(); j++) {
                    int place = pick(9);
                    due(24, "trace(" + place + ")", x.trace(place), m.trace(place));
                }
            } else if (r < 83) {
                int k = some(9);
                due(24, "trace(" + k + ")", x.trace(k), m.trace(k));
            } else if (r < 85) {
                int k = some(11), n = some(6);
                due(25, "taken(" + k + ", " + n + ")", x.taken(k, n), m.taken(k, n));
            } else if (r < 87) {
                int k = some(5);
                due(26, "count(" + k + ")", x.count(k), m.count(k));
            } else if (r < 89) {
                int s = pick(3) == 0 ? -1 + some(5) : 2, n = some(60);
                due(27, "tape(" + t + ", " + s + ", " + n + ")", x.tape(t, s, n), m.tape(t, s, n));
                fillByRule(t);
            } else if (r < 94) {
                long v = pick(3) == 0 ? seed : pick(2) == 0 ? -1 : some(12);
                due(28, "item(" + t + ", " + i + ", " + v + ")", x.item(t, i, v), m.item(t, i, v));
            } else if (r < 97) {
                due(29, "read(" + t + ", " + i + ")", x.read(t, i), m.read(t, i));
            } else {
                int o = pick(3) == 0 ? t : some(1), j = some(5), n = some(12);
                due(30, "shift(" + t + ", " + i + ", " + o + ", " + j + ", " + n + ")",
                    x.shift(t, i, o, j, n), m.shift(t, i, o, j, n));
            }
        }

        /** A row that a RULE would make, with now and then a wrong pint, so that judging gets far. */
        void fillByRule(int t) {
            if (m.here() == null || m.rules.isEmpty() || pick(3) != 0) {
                return;
            }
            int rule = pick(m.rules.size());
            for (int k = 0; k < 12; k++) {
                int w = m.day(rule, 10 + k);
                int v = w == -5 ? -1 : w + (pick(4) == 0 ? pick(3) : 0);
                due(28, "item(" + t + ", " + k + ", " + v + ")", x.item(t, k, v), m.item(t, k, v));
            }
            due(20, "judge(" + t + ", 0)", x.judge(t, 0), m.judge(t, 0));
        }
    }

    /** Texts of cliffs, most of them right. */
    private static final class Texts {
        final Run run;

        Texts(Run run) {
            this.run = run;
        }

        String text() {
            StringBuilder t = new StringBuilder();
            int n = run.pick(25) == 0 ? 13 : 1 + run.pick(9);
            for (int k = 0; k < n; k++) {
                String c = n > 11 ? "rope " + run.pick(4) : clause();
                if (t.length() + c.length() + 1 > 100) {
                    break;
                }
                t.append(k == 0 ? "" : ";").append(c);
            }
            if (run.pick(7) == 0 && t.length() > 0) {
                t.setCharAt(run.pick(t.length()), "part;( )!&|sw<=>0129\u00e9".charAt(run.pick(21)));
            }
            if (run.pick(12) == 0) {
                t.setLength(run.pick(t.length() + 1));
            }
            if (run.pick(12) == 0 && t.length() < 100) {
                t.append(";)&|x9 ".charAt(run.pick(7)));
            }
            return t.toString();
        }

        String clause() {
            switch (run.pick(13)) {
                case 0:
                case 1:
                case 2: return "part " + run.pick(run.pick(4) == 0 ? 100 : 12);
                case 3: return "rope " + run.pick(6);
                case 4: return "head " + run.pick(16);
                case 5:
                case 6: return "drag " + run.pick(12) + " " + e(0);
                case 7: return "brake " + (20 + run.pick(run.pick(2) == 0 ? 80 : 900));
                case 8: return "tank " + run.pick(80);
                case 9: return "seats " + run.pick(9);
                case 10:
                case 11: return "spring " + run.pick(9) + " " + e(0);
                default: return "pond " + run.pick(50);
            }
        }

        String e(int depth) {
            switch (run.pick(10)) {
                case 0: return depth > 5 ? test() : "(" + e(depth + 1) + ")";
                case 1: return depth > 5 ? test() : "!" + e(depth + 1);
                case 2: return test() + "&" + e(depth + 1);
                case 3: return test() + "|" + e(depth + 1);
                case 4: return "!!(!(" + test() + "))";
                default: return test();
            }
        }

        String test() {
            String relation = "<=>".substring(run.pick(3)).substring(0, 1);
            return run.pick(4) == 0 ? "w" + relation + run.pick(2) : "s" + relation + run.pick(13);
        }
    }

    /** A second writing of the document. */
    private static final class Model {
        static final Pattern CLIFF = Pattern.compile(cliffPattern());

        String text = "";
        final List<Cliff> cliffs = new ArrayList<>();
        final List<Rule> rules = new ArrayList<>();
        Setting now = new Setting();
        Setting image = null;
        final Object[] tapes = new Object[6];
        List<Integer> trace = new ArrayList<>();

        static String cliffPattern() {
            String test = "[sw][<=>][0-9]{1,2}";
            String f = test;
            for (int depth = 0; depth < 4; depth++) {
                String t = "(?:" + f + ")(?:&(?:" + f + "))*";
                String e = t + "(?:\\|" + t + ")*";
                f = "!(?:" + f + ")|\\((?:" + e + ")\\)|" + test;
            }
            String t = "(?:" + f + ")(?:&(?:" + f + "))*";
            String e = t + "(?:\\|" + t + ")*";
            String n = "[0-9]{1,3}";
            String clause = "(?:(?:part|rope|head|brake|tank|seats|pond) " + n + "|(?:drag|spring) " + n + " (?:" + e + "))";
            return clause + "(?:;" + clause + "){0,11}";
        }

        /** -1: it is a CLIFF's. */
        static int fault(String t) {
            if (CLIFF.matcher(t).matches()) {
                return -1;
            }
            for (int p = 1; p <= t.length(); p++) {
                Matcher start = CLIFF.matcher(t.substring(0, p));
                if (!start.matches() && !start.hitEnd()) {
                    return p - 1;
                }
            }
            return t.length();
        }

        Cliff here() {
            return now.cliff < 0 ? null : cliffs.get(now.cliff);
        }

        int feed(int bytes, int n) {
            if (n < 0 || n > 4) {
                return -2;
            }
            if (text.length() + n > 100) {
                return -4;
            }
            String all = "";
            for (int k = 0; k < n; k++) {
                all = (char) (bytes & 255) + all;
                bytes >>= 8;
            }
            text += all;
            return text.length();
        }

        int cliff() {
            if (cliffs.size() == 4) {
                return -4;
            }
            int fault = fault(text);
            if (fault < 0) {
                cliffs.add(new Cliff(text));
            }
            text = "";
            if (fault >= 0) {
                return -10 - fault;
            }
            choose(cliffs.size() - 1);
            return cliffs.size() - 1;
        }

        int choose(int k) {
            if (k < 0 || k >= cliffs.size()) {
                return -1;
            }
            int was = now.cliff;
            now.cliff = k;
            if (now.pond > here().last("pond", 20, 40)) {
                now.pond = here().last("pond", 20, 40);
            }
            return was;
        }

        int of(int what) {
            Cliff c = here();
            if (c == null) {
                return -1;
            }
            int[] list = {c.parts().size(), c.last("rope", 0, 999), c.last("head", 10, 999), c.last("brake", 999, 999),
                c.last("tank", 20, 60), c.last("seats", 4, 6), c.last("pond", 20, 40)};
            if (what >= 0 && what <= 6) {
                return list[what];
            }
            return what >= 10 && what <= 14 && what - 10 < c.parts().size() ? c.parts().get(what - 10) : -1;
        }

        int told(int what, int step) {
            Cliff c = here();
            return c == null || step < 0 || step > 11 || what < 0 || what > 1
                ? -1 : c.sum(what == 0 ? "drag" : "spring", step, now.wet);
        }

        boolean heads(int n) {
            return n >= 0 && n <= 6;
        }

        long pull(int part, int step, int d, int u, int w) {
            Cliff c = here();
            if (c == null || part < 0 || part >= c.parts().size() || step < 0 || step > 11 || !heads(d) || !heads(u)
                || w < 0 || w > 99) {
                return Long.MIN_VALUE;
            }
            return new World(c, now).pull(part, step, d, u, w, 0);
        }

        int stops(int step, int d, int u, int w) {
            if (here() == null || step < 0 || step > 11) {
                return -1;
            }
            if (!heads(d) || !heads(u) || w < 0 || w > 99) {
                return -2;
            }
            return new World(here(), now).stops(step, d, u, w, 0);
        }

        int least(int step, int d, int u) {
            if (here() == null || step < 0 || step > 11) {
                return -1;
            }
            return !heads(d) || !heads(u) ? -2 : new World(here(), now).least(step, d, u, 0);
        }

        int jump(int step, int d, int u) {
            int first = least(step, d, u);
            if (first == -1 || first == -2) {
                return first;
            }
            World world = new World(here(), now);
            int more = 1;
            while (more < 100 && world.least(step, d, u, more) == first) {
                more++;
            }
            return more % 100;
        }

        int come(int step, int side, int n) {
            if (step < 0 || step > 11 || side < 0 || side > 1) {
                return -1;
            }
            if (n < 0 || n > 6) {
                return -2;
            }
            int was = now.come[side][step];
            now.come[side][step] = n;
            return was;
        }

        int wet(boolean so) {
            boolean was = now.wet;
            now.wet = so;
            return was ? 1 : 0;
        }

        int pond(int n) {
            if (n < 0 || n > (here() == null ? 0 : of(6))) {
                return -2;
            }
            int was = now.pond;
            now.pond = n;
            return was;
        }

        int rule(int kind, int v) {
            if (kind < 0 || kind > 6) {
                return -1;
            }
            if (v < 0 || v > 20) {
                return -2;
            }
            if (rules.size() == 12) {
                return -4;
            }
            Rule r;
            switch (kind) {
                case 1: r = new Full(); break;
                case 2: r = new Bell(); break;
                case 3: r = new Thrift(); break;
                case 4: r = new Best(); break;
                case 5: r = new Spare(); break;
                case 6: r = new Told(); break;
                default: r = new Rule(); break;
            }
            r.kind = kind;
            r.v = v;
            r.i = rules.size();
            r.model = this;
            rules.add(r);
            return r.i;
        }

        int row(int rule, int n) {
            if (rule < 0 || rule >= rules.size()) {
                return -1;
            }
            if (n != 0 && n != 1) {
                return -2;
            }
            if (!(rules.get(rule) instanceof Told)) {
                return -3;
            }
            Told told = (Told) rules.get(rule);
            if (told.row.length() == 12) {
                return -4;
            }
            told.row += n;
            return told.row.length();
        }

        int day(int rule, int what) {
            if (rule < 0 || rule >= rules.size() || here() == null || what < 0 || what > 21 || what > 5 && what < 10) {
                return -1;
            }
            return new Story(new World(here(), now), rules.get(rule)).facts[what];
        }

        long waits(int step, int pond, int above, int below, int what) {
            if (here() == null || step < 0 || step > 11 || pond < 0 || pond > of(6) || above < 0 || above > 8
                || below < 0 || below > 8 || what < 0 || what > 1) {
                return Long.MIN_VALUE;
            }
            int[] two = new World(here(), now).noneAndTrip(step, pond, above, below, 0);
            return what == 0 ? Math.max(two[0], two[1]) : two[1] == -99999 ? -99999 : two[1] - two[0];
        }

        int bell() {
            if (here() == null) {
                return -1;
            }
            int found = -1, most = -1;
            for (int v = 11; v >= 0; v--) {
                Bell bell = new Bell();
                bell.v = v;
                int[] facts = new Story(new World(here(), now), bell).facts;
                if (100 * facts[0] + facts[4] >= most) {
                    most = 100 * facts[0] + facts[4];
                    found = v;
                }
            }
            return found;
        }

        int whit() {
            if (here() == null) {
                return -1;
            }
            for (int n = 1; n <= 6; n++) {
                World world = new World(here(), now);
                for (int k = 0; k < 12; k++) {
                    world.come[1][k] = Math.min(6, n * world.come[1][k]);
                }
                if (new Story(world, new Best()).leftBelow > 0) {
                    return n;
                }
            }
            return -5;
        }

        int offer(int sort, int size, int price) {
            if (sort < 0 || sort > 3) {
                return -1;
            }
            if (size < 1 || size > 20 || price < 0 || price > 99) {
                return -2;
            }
            if (now.offers.size() == 4) {
                return -4;
            }
            now.offers.add(new int[] {sort, size, price});
            return now.offers.size() - 1;
        }

        int buy(int purse) {
            if (here() == null) {
                return -1;
            }
            if (purse < 0 || purse > 999) {
                return -2;
            }
            int found = 0;
            long most = -1;
            for (int set = 0; set < 1 << now.offers.size(); set++) {
                World world = new World(here(), now);
                int price = 0;
                for (int k = 0; k < now.offers.size(); k++) {
                    if ((set & 1 << k) != 0) {
                        int[] thing = now.offers.get(k);
                        price += thing[2];
                        world.tank += thing[0] == 0 ? thing[1] : 0;
                        world.seats += thing[0] == 1 ? thing[1] : 0;
                        world.moreSpring += thing[0] == 2 ? thing[1] : 0;
                        world.most += thing[0] == 3 ? thing[1] : 0;
                    }
                }
                world.tank = Math.min(60, world.tank);
                world.seats = Math.min(6, world.seats);
                world.most = Math.min(40, world.most);
                if (price <= purse) {
                    int[] facts = new Story(world, new Best()).facts;
                    long rank = (100L * facts[0] + facts[4]) * 1000000 + (999 - price) * 100 + (99 - set);
                    if (rank > most) {
                        most = rank;
                        found = set;
                    }
                }
            }
            return found;
        }

        int judge(int tape, int i) {
            if (tape < 0 || tape > 5 || here() == null) {
                return -1;
            }
            if (tapes[tape] != null && !(tapes[tape] instanceof int[])) {
                return -12;
            }
            int[] row = tapes[tape] == null ? new int[0] : (int[]) tapes[tape];
            World world = new World(here(), now);
            int pond = now.pond, above = 0, below = 0;
            for (int k = 0; k < 12; k++) {
                if (i < 0 || (long) i + k >= row.length) {
                    return 100 + k;
                }
                pond = Math.min(world.most, pond + world.spring(k));
                above = Math.min(8, above + world.come[0][k]);
                below = Math.min(8, below + world.come[1][k]);
                int w = row[i + k];
                if (w == -1) {
                    continue;
                }
                int d = Math.min(world.seats, above), u = Math.min(world.seats, below);
                if (w < -1 || d == 0 && u == 0 || w > world.tank || w > pond || world.stops(k, d, u, w, 0) != -5) {
                    return k;
                }
                pond -= w;
                above -= d;
                below -= u;
            }
            return -5;
        }

        int image() {
            image = now.copy();
            return now.pond;
        }

        int undo() {
            if (image == null) {
                return -3;
            }
            now = image.copy();
            return now.pond;
        }

        int act(int rule, int act, int x) {
            trace = new ArrayList<>();
            if (rule < 0 || rule >= rules.size()) {
                return 0;
            }
            Rule r = rules.get(rule);
            return act == 0 ? r.goes(x) : act == 1 ? r.holds(x) : act == 2 ? r.tells(x) : 0;
        }

        int trace(int i) {
            return i >= 0 && i < trace.size() && i < 20 ? trace.get(i) : -1;
        }

        int taken(int rule, int k) {
            Class<?>[] kinds = {Rule.class, Full.class, Bell.class, Thrift.class, Best.class, Spare.class, Told.class};
            if (k < 0 || k > 6) {
                return -2;
            }
            if (rule < 0 || rule >= rules.size()) {
                return -11;
            }
            return kinds[k].isInstance(rules.get(rule)) ? rules.get(rule).kind : -12;
        }

        int count(int what) {
            int[] list = {cliffs.size(), rules.size(), now.offers.size(), text.length(), now.cliff, trace.size()};
            return what < 0 || what > 5 ? -2 : list[what];
        }

        int tape(int tape, int sort, int n) {
            if (tape < 0 || tape > 5) {
                return -1;
            }
            if (sort < -1 || sort > 4 || sort != -1 && n > 60) {
                return -2;
            }
            Class<?>[] sorts = {byte.class, short.class, int.class, long.class, boolean.class};
            try {
                tapes[tape] = sort == -1 ? null : Array.newInstance(sorts[sort], n);
            } catch (NegativeArraySizeException e) {
                return -14;
            }
            return 1;
        }

        int item(int tape, int i, long v) {
            if (tape < 0 || tape > 5) {
                return -1;
            }
            try {
                Object t = tapes[tape];
                if (t instanceof byte[]) {
                    ((byte[]) t)[i] = (byte) v;
                } else if (t instanceof short[]) {
                    ((short[]) t)[i] = (short) v;
                } else if (t instanceof int[]) {
                    ((int[]) t)[i] = (int) v;
                } else if (t instanceof boolean[]) {
                    ((boolean[]) t)[i] = v != 0;
                } else {
                    ((long[]) t)[i] = v;
                }
                return 1;
            } catch (NullPointerException e) {
                return -11;
            } catch (ArrayIndexOutOfBoundsException e) {
                return -13;
            }
        }

        long read(int tape, int i) {
            if (tape < 0 || tape > 5 || tapes[tape] == null || i < 0 || i >= Array.getLength(tapes[tape])) {
                return Long.MIN_VALUE;
            }
            Object v = Array.get(tapes[tape], i);
            return v instanceof Boolean ? ((Boolean) v ? 1 : 0) : ((Number) v).longValue();
        }

        int shift(int tape, int i, int other, int j, int n) {
            if (tape < 0 || tape > 5 || other < 0 || other > 5) {
                return -1;
            }
            try {
                System.arraycopy(tapes[tape], i, tapes[other], j, n);
                return n;
            } catch (NullPointerException e) {
                return -11;
            } catch (ArrayStoreException e) {
                return -12;
            } catch (IndexOutOfBoundsException e) {
                return -13;
            }
        }
    }

    private static final class Setting {
        int[][] come = new int[2][12];
        boolean wet;
        int pond;
        int cliff = -5;
        List<int[]> offers = new ArrayList<>();

        Setting copy() {
            Setting s = new Setting();
            s.come = new int[][] {come[0].clone(), come[1].clone()};
            s.wet = wet;
            s.pond = pond;
            s.cliff = cliff;
            s.offers = new ArrayList<>(offers);
            return s;
        }
    }

    /** A cliff as its clauses' texts. */
    private static final class Cliff {
        final String[] clauses;

        Cliff(String text) {
            clauses = text.split(";");
        }

        int last(String word, int without, int most) {
            int found = without;
            for (String c : clauses) {
                if (c.startsWith(word)) {
                    found = Math.min(most, Integer.parseInt(c.split(" ")[1]));
                }
            }
            return found;
        }

        List<Integer> parts() {
            List<Integer> list = new ArrayList<>();
            for (String c : clauses) {
                if (c.startsWith("part") && list.size() < 5) {
                    list.add(Integer.parseInt(c.split(" ")[1]));
                }
            }
            if (list.isEmpty()) {
                list.add(5);
            }
            return list;
        }

        int sum(String word, int step, boolean wet) {
            int sum = 0;
            for (String c : clauses) {
                if (c.startsWith(word)) {
                    String[] cut = c.split(" ");
                    sum += holds(cut[2], step, wet ? 1 : 0) ? Integer.parseInt(cut[1]) : 0;
                }
            }
            return sum;
        }

        static boolean holds(String e, int s, int w) {
            int or = outside(e, '|');
            if (or >= 0) {
                return holds(e.substring(0, or), s, w) | holds(e.substring(or + 1), s, w);
            }
            int and = outside(e, '&');
            if (and >= 0) {
                return holds(e.substring(0, and), s, w) & holds(e.substring(and + 1), s, w);
            }
            if (e.startsWith("!")) {
                return !holds(e.substring(1), s, w);
            }
            if (e.startsWith("(")) {
                return holds(e.substring(1, e.length() - 1), s, w);
            }
            int sign = Integer.signum((e.charAt(0) == 's' ? s : w) - Integer.parseInt(e.substring(2)));
            return sign == "<=>".indexOf(e.charAt(1)) - 1;
        }

        static int outside(String e, char sign) {
            int open = 0;
            for (int k = 0; k < e.length(); k++) {
                open += e.charAt(k) == '(' ? 1 : e.charAt(k) == ')' ? -1 : 0;
                if (open == 0 && e.charAt(k) == sign) {
                    return k;
                }
            }
            return -1;
        }
    }

    /** A cliff in its weather, with what is bought and who comes. */
    private static final class World {
        final Cliff c;
        final boolean wet;
        final int pond;
        final int[][] come;
        final List<Integer> parts;
        final int head, rope, brake;
        int tank, seats, most, moreSpring;
        final int[] drags = new int[12], springs = new int[12];
        final Integer[][][] leasts = new Integer[12][9][9];

        World(Cliff c, Setting s) {
            this.c = c;
            wet = s.wet;
            pond = s.pond;
            come = s.copy().come;
            parts = c.parts();
            head = c.last("head", 10, 999);
            rope = c.last("rope", 0, 999);
            brake = c.last("brake", 999, 999);
            tank = c.last("tank", 20, 60);
            seats = c.last("seats", 4, 6);
            most = c.last("pond", 20, 40);
            for (int k = 0; k < 12; k++) {
                drags[k] = c.sum("drag", k, wet);
                springs[k] = c.sum("spring", k, wet);
            }
        }

        int spring(int step) {
            return springs[step] + moreSpring;
        }

        long pull(int k, int step, int d, int u, int w, int more) {
            return (long) parts.get(k) * (head * (d - u) + w) + (long) rope * (2 * k - parts.size() + 1)
                - drags[step] - more;
        }

        int stops(int step, int d, int u, int w, int more) {
            for (int k = 0; k < parts.size(); k++) {
                long p = pull(k, step, d, u, w, more);
                if (p <= 0) {
                    return k;
                }
                if (p > brake) {
                    return 100 + k;
                }
            }
            return -5;
        }

        int least(int step, int d, int u, int more) {
            for (int w = 0; w <= tank; w++) {
                if (stops(step, d, u, w, more) == -5) {
                    return w;
                }
            }
            return -5;
        }

        int usualLeast(int step, int d, int u) {
            if (leasts[step][d][u] == null) {
                leasts[step][d][u] = least(step, d, u, 0);
            }
            return leasts[step][d][u];
        }

        int worth(int step, int pond, int above, int below, int spare) {
            if (step == 12) {
                return pond;
            }
            int[] two = noneAndTrip(step, pond, above, below, spare);
            return Math.max(two[0], two[1]);
        }

        int[] noneAndTrip(int step, int pond, int above, int below, int spare) {
            int p = Math.min(most, pond + spring(step));
            int a = Math.min(8, above + come[0][step]);
            int b = Math.min(8, below + come[1][step]);
            int none = worth(step + 1, p, a, b, spare);
            int d = Math.min(seats, a), u = Math.min(seats, b);
            int w = d + u == 0 ? -5 : usualLeast(step, d, u);
            if (w == -5 || w > p || p - w < spare) {
                return new int[] {none, -99999};
            }
            return new int[] {none, 100 * u + worth(step + 1, p - w, a - d, b - u, spare)};
        }
    }

    /** A day told by a rule: its facts by their "what". */
    private static final class Story {
        final int[] facts = new int[22];
        int leftBelow;

        Story(World world, Rule rule) {
            int pond = world.pond, above = 0, below = 0;
            for (int k = 0; k < 12; k++) {
                int[] two = rule instanceof Best
                    ? world.noneAndTrip(k, pond, above, below, rule instanceof Spare ? rule.v : 0) : null;
                pond = Math.min(world.most, pond + world.spring(k));
                above += world.come[0][k];
                below += world.come[1][k];
                while (above > 8) {
                    above--;
                    facts[3]++;
                }
                while (below > 8) {
                    below--;
                    facts[3]++;
                }
                int d = Math.min(world.seats, above), u = Math.min(world.seats, below);
                int w = world.usualLeast(k, d, u);
                facts[10 + k] = -5;
                boolean canBe = d + u > 0 && w >= 0 && w <= pond;
                boolean led = two == null ? rule.leads(k, below >= world.seats, w, u) : two[1] > two[0];
                if (canBe && led) {
                    facts[10 + k] = w;
                    pond -= w;
                    above -= d;
                    below -= u;
                    facts[0] += u;
                    facts[1] += d;
                    facts[5]++;
                }
                facts[2] += above + below;
            }
            facts[4] = pond;
            leftBelow = below;
        }
    }

    private static class Rule {
        int kind, v, i;
        Model model;

        void began(int body) {
            model.trace.add(body);
        }

        boolean leads(int step, boolean full, int water, int up) {
            return true;
        }

        int goes(int x) {
            began(10);
            return x + i;
        }

        int holds(int x) {
            began(11);
            return goes(x) - v;
        }

        int tells(int x) {
            began(12);
            return holds(x) * 2;
        }
    }

    private static final class Full extends Rule {
        @Override boolean leads(int step, boolean full, int water, int up) {
            return full || step == 11;
        }

        @Override int holds(int x) {
            began(20);
            return super.holds(x) ^ 6;
        }
    }

    private static final class Bell extends Rule {
        @Override boolean leads(int step, boolean full, int water, int up) {
            return step % (v + 1) == 0;
        }

        @Override int goes(int x) {
            began(30);
            return super.goes(x * 3);
        }
    }

    private static final class Thrift extends Rule {
        @Override boolean leads(int step, boolean full, int water, int up) {
            return water <= v * up || step == 11;
        }

        @Override int tells(int x) {
            began(40);
            return super.tells(x) + holds(1);
        }
    }

    private static class Best extends Rule {
        @Override int goes(int x) {
            began(50);
            return -super.goes(x);
        }

        @Override int tells(int x) {
            began(51);
            return super.tells(x - i);
        }
    }

    private static final class Spare extends Best {
        @Override int holds(int x) {
            began(60);
            return super.holds(x) + super.goes(2);
        }
    }

    private static final class Told extends Rule {
        String row = "";

        @Override boolean leads(int step, boolean full, int water, int up) {
            return step < row.length() && row.charAt(step) == '1';
        }

        @Override int tells(int x) {
            began(70);
            return holds(x) - super.tells(x);
        }
    }
}
