import java.util.ArrayList;
import java.util.List;

/**
 * "What is answered so changes nothing; what is asked changes nothing": each refused call, and each call that asks, is
 * made on one of two objects that were made alike; then both answer the same to a long row of calls.
 */
public final class RefusalTests {
    private static final int NONE = Answers.NONE, BAD = Answers.BAD, STATE = Answers.STATE, FULL = Answers.FULL;
    private static final int NOTHING = Answers.NOTHING, CAST = Answers.CAST, PLACE = Answers.PLACE, SIZE = Answers.SIZE;
    private static final int FAR = Answers.FAR, FAR_BELOW = Answers.FAR_BELOW;
    private static final long NO = Answers.NO;

    private interface Call {
        long on(CliffCars x);
    }

    private static final List<String> names = new ArrayList<>();
    private static final List<Call> calls = new ArrayList<>();
    private static final List<Long> wants = new ArrayList<>();

    public static void main(String[] args) {
        Answers.sentence("What is answered so changes nothing, on a new object");
        ofCliffs(NONE);
        ofTapes();
        refusedWithoutCliff();
        changesNothing(0);

        Answers.sentence("What is answered so changes nothing");
        ofCliffs(NONE);
        ofLoads();
        ofDays();
        ofRules();
        ofTapes();
        changesNothing(1);

        Answers.sentence("What is answered so changes nothing, where all is full");
        ofLoads();
        ofDays();
        ofRules();
        ofTapes();
        whereAllIsFull();
        changesNothing(2);

        Answers.sentence("what is asked changes nothing");
        asked();
        changesNothing(1);
        asked();
        changesNothing(2);
        Answers.end();
    }

    private static void refused(String name, long want, Call call) {
        names.add(name);
        wants.add(want);
        calls.add(call);
    }

    /** -1 and the like, and what lies just beyond. */
    private static int[] beyond(int most) {
        return new int[] {FAR_BELOW, -1, most + 1, FAR};
    }

    private static void ofCliffs(int want) {
        for (int n : beyond(4)) {
            refused("feed of " + n, BAD, x -> x.feed('a', n));
        }
        for (int k : new int[] {FAR_BELOW, -1, 4, FAR}) {
            refused("choose " + k, want, x -> x.choose(k));
        }
    }

    private static void refusedWithoutCliff() {
        refused("choose 0", NONE, x -> x.choose(0));
        refused("of", NONE, x -> x.of(0));
        refused("told", NONE, x -> x.told(0, 0));
        refused("pull", NO, x -> x.pull(0, 0, 0, 0, 0));
        refused("stops", NONE, x -> x.stops(0, 0, 0, 0));
        refused("least", NONE, x -> x.least(0, 0, 0));
        refused("jump", NONE, x -> x.jump(0, 0, 0));
        refused("pond 1", BAD, x -> x.pond(1));
        refused("day", NONE, x -> x.day(0, 0));
        refused("waits", NO, x -> x.waits(0, 0, 0, 0, 0));
        refused("bell", NONE, CliffCars::bell);
        refused("whit", NONE, CliffCars::whit);
        refused("buy", NONE, x -> x.buy(0));
        refused("judge", NONE, x -> x.judge(0, 0));
        refused("undo", STATE, CliffCars::undo);
        refused("row", NONE, x -> x.row(0, 0));
        refused("taken", NOTHING, x -> x.taken(0, 0));
        refused("item", NOTHING, x -> x.item(0, 0, 1));
        refused("shift", NOTHING, x -> x.shift(0, 0, 1, 0, 0));
    }

    private static void ofLoads() {
        for (int what : beyond(20)) {
            refused("of " + what, NONE, x -> x.of(what));
        }
        for (int step : beyond(11)) {
            refused("told in " + step, NONE, x -> x.told(0, step));
            refused("stops in " + step, NONE, x -> x.stops(step, 0, 0, 0));
            refused("least in " + step, NONE, x -> x.least(step, 0, 0));
            refused("jump in " + step, NONE, x -> x.jump(step, 0, 0));
            refused("pull in " + step, NO, x -> x.pull(0, step, 0, 0, 0));
        }
        for (int n : beyond(6)) {
            refused("stops with d " + n, BAD, x -> x.stops(0, n, 0, 0));
            refused("least with u " + n, BAD, x -> x.least(0, 0, n));
            refused("jump with d " + n, BAD, x -> x.jump(0, n, 0));
            refused("pull with u " + n, NO, x -> x.pull(0, 0, 0, n, 0));
        }
    }

    private static void ofDays() {
        for (int k : beyond(11)) {
            refused("come in " + k, NONE, x -> x.come(k, 0, 2));
        }
        for (int k : beyond(1)) {
            refused("come at " + k, NONE, x -> x.come(3, k, 2));
            refused("told of " + k, NONE, x -> x.told(k, 0));
        }
        for (int k : beyond(6)) {
            refused("come of " + k, BAD, x -> x.come(3, 1, k));
        }
        for (int k : beyond(35)) {
            refused("pond " + k, BAD, x -> x.pond(k));
        }
        for (int k : beyond(21)) {
            refused("day, what " + k, NONE, x -> x.day(0, k));
        }
        for (int k : beyond(11)) {
            refused("day of " + k, NONE, x -> x.day(k, 0));
            refused("waits in " + k, NO, x -> x.waits(k, 0, 0, 0, 0));
        }
        for (int k : beyond(8)) {
            refused("waits with " + k, NO, x -> x.waits(0, 0, k, 0, 0));
            refused("waits with " + k, NO, x -> x.waits(0, 0, 0, k, 1));
        }
        refused("waits with 36", NO, x -> x.waits(0, 36, 0, 0, 0));
        refused("waits, what 2", NO, x -> x.waits(0, 0, 0, 0, 2));
        for (int k : beyond(999)) {
            refused("buy for " + k, BAD, x -> x.buy(k));
        }
    }

    private static void ofRules() {
        for (int k : beyond(6)) {
            refused("rule of KIND " + k, NONE, x -> x.rule(k, 3));
            refused("taken for " + k, BAD, x -> x.taken(0, k));
        }
        for (int k : beyond(20)) {
            refused("rule of v " + k, BAD, x -> x.rule(6, k));
            refused("offer of size " + k, BAD, x -> x.offer(0, k, 1));
        }
        refused("offer of size 0", BAD, x -> x.offer(2, 0, 1));
        for (int k : beyond(99)) {
            refused("offer for " + k, BAD, x -> x.offer(2, 1, k));
        }
        for (int k : beyond(3)) {
            refused("offer of sort " + k, NONE, x -> x.offer(k, 1, 1));
        }
        for (int k : beyond(11)) {
            refused("row of " + k, NONE, x -> x.row(k, 1));
            refused("taken of " + k, NOTHING, x -> x.taken(k, 0));
        }
        for (int k : beyond(1)) {
            refused("row with " + k, BAD, x -> x.row(6, k));
        }
        for (int rule = 0; rule < 6; rule++) {
            int k = rule;
            refused("row of RULE " + k, STATE, x -> x.row(k, 1));
            refused("RULE " + k + " for a TOLD one", CAST, x -> x.taken(k, 6));
        }
        for (int k : beyond(5)) {
            refused("count " + k, BAD, x -> x.count(k));
        }
        for (int k : beyond(20)) {
            refused("trace " + k, NONE, x -> x.trace(k));
        }
    }

    private static void ofTapes() {
        for (int k : beyond(5)) {
            refused("tape " + k, NONE, x -> x.tape(k, 2, 3));
            refused("item of " + k, NONE, x -> x.item(k, 0, 9));
            refused("read of " + k, NO, x -> x.read(k, 0));
            refused("shift from " + k, NONE, x -> x.shift(k, 0, 0, 0, 1));
            refused("shift to " + k, NONE, x -> x.shift(0, 0, k, 0, 1));
            refused("judge of " + k, NONE, x -> x.judge(k, 0));
        }
        for (int k : new int[] {FAR_BELOW, -2, 5, FAR}) {
            refused("tape of sort " + k, BAD, x -> x.tape(0, k, 3));
        }
        for (int sort = 0; sort < 5; sort++) {
            int k = sort;
            refused("tape of 61", BAD, x -> x.tape(0, k, 61));
            refused("tape of -1", SIZE, x -> x.tape(0, k, -1));
            refused("tape far below", SIZE, x -> x.tape(1, k, FAR_BELOW));
        }
        refused("item of nothing", NOTHING, x -> x.item(5, 0, 9));
        refused("shift from nothing", NOTHING, x -> x.shift(5, 0, 0, 0, 1));
        refused("shift to nothing", NOTHING, x -> x.shift(0, 0, 5, 0, 1));
        refused("read of nothing", NO, x -> x.read(5, 0));
    }

    /** Beside the others: what the first three TAPES of the second and the third object refuse. */
    private static void ofHeldTapes() {
        for (int k : new int[] {FAR_BELOW, -1, 13, FAR}) {
            refused("item at " + k, PLACE, x -> x.item(0, k, 9));
            refused("read at " + k, NO, x -> x.read(0, k));
            refused("shift from " + k, PLACE, x -> x.shift(0, k, 1, 0, 1));
            refused("shift to " + k, PLACE, x -> x.shift(1, 0, 0, k, 1));
        }
        for (int k : new int[] {FAR_BELOW, -1, 4, FAR}) {
            refused("shift of " + k, PLACE, x -> x.shift(0, 0, 1, 0, k));
            refused("shift of " + k, PLACE, x -> x.shift(1, 0, 0, 0, k));
            refused("shift of " + k + " onto itself", PLACE, x -> x.shift(1, 0, 1, 0, k));
        }
        refused("shift of unlike sorts", CAST, x -> x.shift(0, 0, 2, 0, 1));
        refused("shift of unlike sorts", CAST, x -> x.shift(2, 0, 0, 0, 0));
        refused("judge of longs", CAST, x -> x.judge(2, 0));
    }

    private static void whereAllIsFull() {
        ofHeldTapes();
        refused("cliff", FULL, CliffCars::cliff);
        refused("choose 4", NONE, x -> x.choose(4));
        refused("choose -1", NONE, x -> x.choose(-1));
        for (int n = 1; n <= 4; n++) {
            int k = n;
            refused("feed of " + k, FULL, x -> x.feed(0x61616161, k));
        }
        refused("feed of 5", BAD, x -> x.feed('a', 5));
        for (int kind = 0; kind <= 6; kind++) {
            int k = kind;
            refused("rule of KIND " + k, FULL, x -> x.rule(k, 3));
        }
        refused("row of 0", FULL, x -> x.row(6, 0));
        refused("row of 1", FULL, x -> x.row(6, 1));
        for (int sort = 0; sort < 4; sort++) {
            int k = sort;
            refused("offer of sort " + k, FULL, x -> x.offer(k, 1, 1));
        }
    }

    /** Of calls that ask, the answers don't matter here: they are the same ones when they are asked twice. */
    private static void asked() {
        for (int k = 0; k < 15; k++) {
            int n = k;
            asks("of " + n, x -> x.of(n));
            asks("count " + n, x -> x.count(n));
            asks("trace " + n, x -> x.trace(n));
            asks("read " + n, x -> x.read(n % 3, n));
            asks("judge " + n, x -> x.judge(n % 2, n));
        }
        for (int k = 0; k < 12; k++) {
            int n = k;
            asks("told " + n, x -> x.told(n % 2, n));
            asks("stops " + n, x -> x.stops(n, n % 7, 1, 5 * n));
            asks("pull " + n, x -> x.pull(0, n, n % 7, 1, n));
            asks("least " + n, x -> x.least(n, n % 4, 2));
            asks("jump " + n, x -> x.jump(n, n % 4, 2));
            asks("day " + n, x -> x.day(n, n % 6));
            asks("pints " + n, x -> x.day(n % 7, 10 + n));
            asks("waits " + n, x -> x.waits(n, n, n % 9, 8 - n % 9, n % 2));
            asks("taken " + n, x -> x.taken(n, n % 7));
            asks("buy " + n, x -> x.buy(10 * n));
        }
        asks("bell", CliffCars::bell);
        asks("whit", CliffCars::whit);
    }

    private static void asks(String name, Call call) {
        refused(name, 0, x -> call.on(x) == call.on(x) ? 0 : 1);
    }

    private static void changesNothing(int sort) {
        if (sort == 1) {
            ofHeldTapes();
        }
        for (int k = 0; k < calls.size(); k++) {
            for (int way = 0; way < 4; way++) {
                CliffCars x = made(sort), like = made(sort);
                Answers.due(names.get(k), calls.get(k).on(x), wants.get(k));
                List<Long> got = new ArrayList<>(), want = new ArrayList<>();
                answers(x, way, got);
                answers(like, way, want);
                for (int j = 0; j < want.size(); j++) {
                    Answers.due("answer " + j + " of way " + way + " behind " + names.get(k), got.get(j), want.get(j));
                }
            }
        }
        names.clear();
        calls.clear();
        wants.clear();
    }

    /** 0: a new one; 1: one in use; 2: one where all is full. */
    private static CliffCars made(int sort) {
        CliffCars x = new CliffCars();
        if (sort == 0) {
            return x;
        }
        Answers.read(x, "part 3;part 1;rope 2;head 4;tank 50;seats 2;brake 90;spring 3 s<9;drag 2 w=1|s=4;pond 35");
        x.come(0, 1, 5);
        x.come(1, 0, 2);
        x.come(4, 1, 6);
        x.pond(31);
        x.offer(1, 1, 20);
        x.offer(2, 2, 30);
        x.image();
        x.come(6, 0, 6);
        x.come(3, 1, 1);
        x.pond(23);
        x.wet(true);
        x.offer(3, 3, 15);
        for (int kind = 0; kind <= 6; kind++) {
            x.rule(kind, 3 + kind);
        }
        x.row(6, 1);
        x.row(6, 0);
        x.row(6, 1);
        Answers.row(x, 0, -1, 17, -1, -1, 9, -1, -1, -1, -1, -1, -1, -1, 6);
        Answers.row(x, 1, 8, -7, 5);
        x.tape(2, 3, 4);
        x.item(2, 3, FAR + 9L);
        x.act(5, 2, 11);
        Answers.feed(x, "part 9;seats 3");
        if (sort == 2) {
            fill(x);
        }
        return x;
    }

    private static void fill(CliffCars x) {
        for (int k = 1; k < 4; k++) {
            x.cliff();
            Answers.feed(x, "part " + k + ";spring 1 s=" + k);
        }
        x.choose(0);
        x.pond(29);
        while (x.feed(';' << 24 | 'p' << 16 | 'a' << 8 | 'r', 4) > 0) {
            x.offer(0, 2, 2);
        }
        while (x.feed(' ', 1) > 0) {
            x.offer(0, 2, 2);
        }
        for (int k = 0; k < 9; k++) {
            x.row(6, k % 2);
        }
        for (int k = 0; k < 5; k++) {
            x.rule(k, k);
        }
        x.act(5, 2, 11);
    }

    private static void answers(CliffCars x, int way, List<Long> all) {
        if (way == 0) {
            ofTheCliff(x, all);
        } else if (way == 1) {
            ofTheDays(x, all);
        } else {
            if (way == 3) {
                all.add((long) x.undo());
            }
            ofTheRest(x, all);
        }
    }

    private static void ofTheCliff(CliffCars x, List<Long> all) {
        for (int k = 0; k < 6; k++) {
            all.add((long) x.count(k));
        }
        for (int k = 0; k < 15; k++) {
            all.add((long) x.of(k));
        }
        for (int k = 0; k < 10; k++) {
            all.add((long) x.trace(k));
        }
        for (int k = 0; k < 12; k++) {
            all.add((long) x.told(0, k));
            all.add((long) x.told(1, k));
            all.add((long) x.least(k, 1, 2));
            all.add((long) x.stops(k, 2, 1, k));
            all.add((long) x.jump(k, 1, 1));
            all.add(x.pull(k % 2, k, 3, 1, 9));
            all.add((long) x.taken(k, 0));
        }
        for (int tape = 0; tape < 6; tape++) {
            for (int k = 0; k < 14; k++) {
                all.add(x.read(tape, k));
            }
            all.add((long) x.judge(tape, 0));
        }
    }

    private static void ofTheDays(CliffCars x, List<Long> all) {
        for (int rule = 0; rule < 12; rule++) {
            for (int what = 0; what < 6; what++) {
                all.add((long) x.day(rule, what));
            }
        }
        for (int k = 0; k < 12; k++) {
            all.add((long) x.day(4, 10 + k));
            all.add(x.waits(k, k, 2, 3, 0));
            all.add(x.waits(k, 20, 1, 5, 1));
            all.add((long) x.act(k, 1, 5));
        }
        all.add((long) x.bell());
        all.add((long) x.whit());
        for (int purse = 0; purse < 100; purse += 5) {
            all.add((long) x.buy(purse));
        }
    }

    /** What can be known only by calls that change it. */
    private static void ofTheRest(CliffCars x, List<Long> all) {
        for (int k = 0; k < 24; k++) {
            all.add((long) x.come(k / 2, k % 2, 0));
        }
        all.add((long) x.wet(false));
        all.add((long) x.pond(0));
        for (int k = 0; k < 12; k++) {
            all.add((long) x.row(k, 1));
        }
        all.add((long) x.offer(0, 1, 1));
        all.add((long) x.rule(0, 1));
        all.add((long) x.feed(';', 1));
        all.add((long) x.cliff());
        for (int k = 0; k < 4; k++) {
            all.add((long) x.choose(k));
            all.add((long) x.of(0));
            all.add((long) x.of(10));
        }
        all.add((long) x.item(0, 0, 4));
        all.add((long) x.shift(0, 0, 1, 0, 2));
        all.add((long) x.undo());
        for (int k = 0; k < 24; k++) {
            all.add((long) x.come(k / 2, k % 2, 0));
        }
        all.add((long) x.wet(false));
        all.add((long) x.pond(0));
        for (int k = 0; k < 6; k++) {
            all.add((long) x.count(k));
        }
        all.add((long) x.buy(999));
    }
}
