/** For each promise: ordinary inputs, the edges that the document names, and wrong inputs; what is due is worked out by hand. */
public final class PromiseTests {
    private static final long NO = Long.MIN_VALUE;
    private static final int FAR = Integer.MAX_VALUE, FAR_BELOW = Integer.MIN_VALUE;

    private static int wrong = 0;
    private static int promise = 0;

    private static void due(String what, long got, long want) {
        if (got != want) {
            wrong++;
            System.out.println("promise " + promise + ": " + what + " answered " + got + ", due is " + want);
        }
    }

    public static void main(String[] args) {
        newObject();
        feeding();
        cliffs();
        faults();
        choosing();
        figures();
        dragAndSpring();
        pulls();
        stopping();
        leastWater();
        jumps();
        coming();
        weather();
        ponds();
        rules();
        rows();
        days();
        daysOfEachKind();
        bestDays();
        waiting();
        bells();
        crowds();
        offers();
        buying();
        judging();
        images();
        acts();
        traces();
        takings();
        counts();
        tapes();
        items();
        readings();
        shifts();
        System.out.println(wrong == 0 ? "all answers are as due" : wrong + " answers are not as due");
        if (wrong != 0) {
            System.exit(1);
        }
    }

    private static void feed(CliffCars x, String text) {
        for (int k = 0; k < text.length(); k++) {
            x.feed(text.charAt(k), 1);
        }
    }

    private static int read(CliffCars x, String text) {
        feed(x, text);
        return x.cliff();
    }

    private static CliffCars on(String text) {
        CliffCars x = new CliffCars();
        due("cliff() of " + text, read(x, text), 0);
        return x;
    }

    /** A cliff of one PART that pulls with the water itself: LEAST is 1 more than the heads' weight that is up. */
    private static CliffCars plain(String more) {
        return on("part 1;head 2;tank 20;seats 2;pond 20" + more);
    }

    private static void newObject() {
        promise = 1;
        CliffCars x = new CliffCars();
        for (int k = 0; k < 4; k++) {
            due("count(" + k + ")", x.count(k), 0);
        }
        due("count(4)", x.count(4), -5);
        due("count(5)", x.count(5), 0);
        due("of(0)", x.of(0), -1);
        due("pond(0)", x.pond(0), 0);
        due("come", x.come(3, 1, 0), 0);
        due("wet", x.wet(false), 0);
        due("undo()", x.undo(), -3);
        due("read", x.read(0, 0), NO);
        due("NO", CliffCars.NO, NO);
    }

    private static void feeding() {
        promise = 2;
        CliffCars x = new CliffCars();
        due("feed of 4", x.feed('p' << 24 | 'a' << 16 | 'r' << 8 | 't', 4), 4);
        due("feed of 0", x.feed(77, 0), 4);
        due("feed of the 2 lowest", x.feed(9 << 24 | 9 << 16 | ' ' << 8 | '7', 2), 6);
        due("n below", x.feed(1, -1), -2);
        due("n beyond", x.feed(1, 5), -2);
        due("n far", x.feed(1, FAR), -2);
        due("n far below", x.feed(1, FAR_BELOW), -2);
        due("count", x.count(3), 6);
        due("cliff", x.cliff(), 0);
        due("its part", x.of(10), 7);
        for (int k = 1; k <= 24; k++) {
            due("feed " + k, x.feed(-1, 4), 4 * k);
        }
        due("feed 3", x.feed(-1, 3), 99);
        due("beyond 100", x.feed(-1, 2), -4);
        due("BAD ahead of FULL", x.feed(-1, 5), -2);
        due("the 100th", x.feed(-1, 1), 100);
        due("none more", x.feed(-1, 1), -4);
        due("none is none", x.feed(-1, 0), 100);
        due("fault of a byte 255", x.cliff(), -10);
    }

    private static void cliffs() {
        promise = 3;
        CliffCars x = new CliffCars();
        due("empty", x.cliff(), -10);
        due("first", read(x, "part 4"), 0);
        due("THE CLIFF", x.count(4), 0);
        due("second", read(x, "rope 2"), 1);
        due("THE CLIFF", x.count(4), 1);
        due("a part without any", x.of(10), 5);
        due("third", read(x, "part 1;part 2;part 3;part 4;part 5;part 6;part 7"), 2);
        due("5 parts", x.of(0), 5);
        due("the 5th", x.of(14), 5);
        due("faulty", read(x, "x"), -10);
        due("faulty text is gone", x.count(3), 0);
        due("THE CLIFF stays", x.count(4), 2);
        due("fourth", read(x, "tank 000"), 3);
        feed(x, "part 4");
        due("FULL", x.cliff(), -4);
        due("its text stays", x.count(3), 6);
        due("FULL ahead of a fault", read(x, "!"), -4);
        due("its text stays", x.count(3), 7);
        due("count", x.count(0), 4);
        x = new CliffCars();
        due("pond 40", read(x, "pond 40"), 0);
        x.pond(33);
        due("a smaller one", read(x, "pond 7"), 1);
        due("the POND keeps no more", x.pond(0), 7);
    }

    private static void fault(String text, int place) {
        due("fault of " + text, read(new CliffCars(), text), -10 - place);
    }

    private static void right(String text) {
        due("cliff() of " + text, read(new CliffCars(), text), 0);
    }

    private static void faults() {
        promise = 3;
        fault("p", 1);
        fault("pa", 2);
        fault("pat 1", 2);
        fault("paqt 1", 2);
        fault("part", 4);
        fault("part1", 4);
        fault("part ", 5);
        fault("part  1", 5);
        fault("part x", 5);
        fault("part 1 ", 6);
        fault("part 1;", 7);
        fault("part 1;;", 7);
        fault("part 1; part 2", 7);
        fault(" part 1", 0);
        fault("Part 1", 0);
        fault("parts 1", 4);
        fault("seat 1", 4);
        fault("se", 2);
        fault("sp", 2);
        fault("sx", 1);
        fault("tank -1", 5);
        fault("tank 1000", 8);
        fault("pond 5 s=1", 6);
        fault("drag 5", 6);
        fault("drag 5;", 6);
        fault("drag 5 ", 7);
        fault("drag 5 s", 8);
        fault("drag 5 s=", 9);
        fault("drag 5 s=x", 9);
        fault("drag 5 s==1", 9);
        fault("drag 5 s=123", 11);
        fault("drag 5 s=1 ", 10);
        fault("drag 5 s=1|", 11);
        fault("drag 5 s=1||s=2", 11);
        fault("drag 5 s=1&|s=2", 11);
        fault("drag 5 s=1)", 10);
        fault("drag 5 (s=1", 11);
        fault("drag 5 (s=1;", 11);
        fault("drag 5 ()", 8);
        fault("drag 5 !", 8);
        fault("drag 5 v=1", 7);
        fault("drag 5 s=1!w=1", 10);
        fault("drag 5 !!!!!s=1", 11);
        fault("drag 5 !!!!(s=1)", 11);
        fault("drag 5 (!(!(s=1))))", 11);
        fault("drag 5 ((!!s=1)", 15);
        right("drag 5 !!!!s=1");
        right("drag 5 !(!(s=1))");
        right("drag 5 !!!!s=1&((((s=1))))|!!!!w=0");
        right("drag 5 ((s=1)&(((s=1))))");
        right("drag 005 s<00");
        String eleven = "rope 1;rope 2;rope 3;rope 4;rope 5;rope 6;rope 7;rope 8;rope 9;rope 1;rope 2";
        right(eleven + ";rope 3");
        fault(eleven + ";rope 3;", 83);
        fault(eleven + ";rope 3;rope 4", 83);
        fault("rope 1\u0000", 6);
        fault("rope 1\u00e9", 6);
    }

    private static void choosing() {
        promise = 4;
        CliffCars x = new CliffCars();
        due("without", x.choose(0), -1);
        x.image();
        read(x, "pond 30;part 1");
        read(x, "pond 9;part 2");
        due("no such one", x.choose(2), -1);
        due("below", x.choose(-1), -1);
        due("far", x.choose(FAR), -1);
        due("the other one", x.choose(0), 1);
        due("its part", x.of(10), 1);
        due("the same one", x.choose(0), 0);
        x.pond(30);
        due("a smaller pond", x.choose(1), 0);
        due("and back", x.choose(0), 1);
        due("what it kept", x.pond(0), 9);
        x.undo();
        due("none was", x.choose(1), -5);
        due("number", x.count(4), 1);
    }

    private static void figures() {
        promise = 5;
        CliffCars x = new CliffCars();
        for (int k = -1; k < 16; k++) {
            due("without", x.of(k), -1);
        }
        read(x, "drag 1 s=1");
        int[] without = {1, 0, 10, 999, 20, 4, 20, -1, -1, -1, 5, -1};
        for (int k = 0; k < without.length; k++) {
            due("of(" + k + ")", x.of(k), without[k]);
        }
        due("below", x.of(-1), -1);
        due("far", x.of(FAR), -1);
        due("far below", x.of(FAR_BELOW), -1);
        read(x, "rope 1;rope 22;head 3;head 999;brake 5;brake 0;tank 9;tank 61;seats 2;seats 7;pond 3;pond 41");
        int[] last = {1, 22, 999, 0, 60, 6, 40, -1, -1, -1, 5, -1};
        for (int k = 0; k < last.length; k++) {
            due("of(" + k + ")", x.of(k), last[k]);
        }
        read(x, "part 9;tank 60;part 0;seats 6;part 999;pond 40");
        int[] parts = {3, 0, 10, 999, 60, 6, 40, -1, -1, -1, 9, 0, 999, -1};
        for (int k = 0; k < parts.length; k++) {
            due("of(" + k + ")", x.of(k), parts[k]);
        }
    }

    private static void dragAndSpring() {
        promise = 6;
        CliffCars x = new CliffCars();
        due("without", x.told(0, 0), -1);
        read(x, "drag 3 s<2|s>10;drag 5 s=1&w=0|s=4&!w=0;spring 7 !(s=1|s=2)&s<4;spring 1 w>0");
        int[] dry = {3, 8, 0, 0, 0, 0, 0, 0, 0, 0, 0, 3};
        int[] wet = {3, 3, 0, 0, 5, 0, 0, 0, 0, 0, 0, 3};
        int[] spring = {7, 0, 0, 7, 0, 0, 0, 0, 0, 0, 0, 0};
        for (int k = 0; k < 12; k++) {
            due("dry drag in " + k, x.told(0, k), dry[k]);
            due("dry spring in " + k, x.told(1, k), spring[k]);
        }
        x.wet(true);
        for (int k = 0; k < 12; k++) {
            due("wet drag in " + k, x.told(0, k), wet[k]);
            due("wet spring in " + k, x.told(1, k), spring[k] + 1);
        }
        due("what", x.told(2, 0), -1);
        due("what", x.told(-1, 0), -1);
        due("step", x.told(0, 12), -1);
        due("step", x.told(0, -1), -1);
        read(x, "drag 1 s=1|s=2&w=1;drag 10 (s=1|s=2)&w=1;drag 100 !s=1&s<3");
        x.wet(false);
        due("& is closer than |", x.told(0, 1), 1);
        due("! is closer than &", x.told(0, 2), 100);
        due("drag of w < and = two digits", read(x, "drag 999 s=11;drag 999 s>09;drag 4 w<1"), 2);
        due("together", x.told(0, 11), 2002);
    }

    private static void pulls() {
        promise = 7;
        CliffCars x = new CliffCars();
        due("without", x.pull(0, 0, 0, 0, 0), NO);
        read(x, "part 2;part 3;part 0;rope 7;head 5;drag 4 s=3");
        due("part 0", x.pull(0, 0, 3, 1, 6), 2 * (5 * 2 + 6) - 7 * 2);
        due("part 1", x.pull(1, 0, 1, 3, 6), 3 * (-10 + 6));
        due("part 2", x.pull(2, 0, 6, 0, 99), 14);
        due("drag", x.pull(2, 3, 0, 6, 99), 10);
        due("no part", x.pull(3, 0, 0, 0, 0), NO);
        due("no part", x.pull(-1, 0, 0, 0, 0), NO);
        due("no step", x.pull(0, 12, 0, 0, 0), NO);
        due("no step", x.pull(0, -1, 0, 0, 0), NO);
        due("d", x.pull(0, 0, 7, 0, 0), NO);
        due("d", x.pull(0, 0, -1, 0, 0), NO);
        due("u", x.pull(0, 0, 0, 7, 0), NO);
        due("u", x.pull(0, 0, 0, -1, 0), NO);
        due("w", x.pull(0, 0, 0, 0, 100), NO);
        due("w", x.pull(0, 0, 0, 0, -1), NO);
        read(x, "part 999;head 999");
        due("great", x.pull(0, 0, 6, 0, 99), 999L * (999 * 6 + 99));
    }

    private static void stopping() {
        promise = 8;
        CliffCars x = new CliffCars();
        due("without", x.stops(0, 9, 0, 0), -1);
        read(x, "part 1;part 2;part 3;head 4;brake 30;drag 6 s=1;rope 0");
        due("it stands at once", x.stops(0, 0, 0, 0), 0);
        due("pull 1 goes", x.stops(0, 0, 0, 1), -5);
        due("pull of brake goes", x.stops(0, 0, 0, 10), -5);
        due("too fast at 2", x.stops(0, 0, 0, 11), 102);
        due("too fast at 1", x.stops(0, 1, 0, 12), 101);
        due("too fast at 0", x.stops(0, 0, 0, 31), 100);
        due("drag", x.stops(1, 0, 0, 6), 0);
        due("drag, pull 1", x.stops(1, 0, 0, 7), -5);
        due("up", x.stops(0, 0, 1, 4), 0);
        due("up and down", x.stops(0, 2, 3, 5), -5);
        due("step", x.stops(12, 0, 0, 0), -1);
        due("step ahead of d", x.stops(-1, 7, 0, 0), -1);
        due("d", x.stops(0, 7, 0, 0), -2);
        due("u", x.stops(0, 0, -1, 0), -2);
        due("w", x.stops(0, 0, 0, 100), -2);
        due("w", x.stops(0, 0, 0, -1), -2);
        read(x, "part 1;part 2;rope 10;brake 12");
        due("stands at 0, though too fast at 1", x.stops(0, 0, 0, 9), 0);
        read(x, "part 40;part 0;brake 12");
        due("too fast at 0, though it stands at 1", x.stops(0, 0, 0, 1), 100);
    }

    private static void leastWater() {
        promise = 9;
        CliffCars x = new CliffCars();
        due("without", x.least(0, 7, 0), -1);
        read(x, "part 2;part 3;head 5;tank 20;brake 40;drag 5 s=2;rope 4");
        due("empty cars: 2w - 4 above 0", x.least(0, 0, 0), 3);
        due("one down: 10 - 4", x.least(0, 1, 0), 0);
        due("one up", x.least(0, 0, 1), 8);
        due("drag: 2w - 9", x.least(2, 0, 0), 5);
        due("three up", x.least(0, 0, 3), 18);
        due("four up: more than tank", x.least(0, 0, 4), -5);
        due("three down: 45 + 4 of 40", x.least(0, 3, 0), -5);
        due("two down", x.least(0, 2, 0), 0);
        due("step", x.least(12, 0, 0), -1);
        due("d", x.least(0, -1, 0), -2);
        due("u", x.least(0, 0, 7), -2);
        read(x, "part 1;head 10;tank 11");
        due("just the tank", x.least(0, 0, 1), 11);
        read(x, "part 1;head 10;tank 10");
        due("just not the tank", x.least(0, 0, 1), -5);
        read(x, "part 50;part 1;brake 49");
        due("one part stands or the other is too fast", x.least(0, 0, 0), -5);
        // a PART of 0 pulls with the rope alone, whatever the water
        int[] brakes = {3, 4, 5};
        int[] leasts = {-5, 1, 1};
        for (int k = 0; k < 3; k++) {
            read(x = new CliffCars(), "part 5;part 0;rope 4;brake " + brakes[k]);
            due("brake " + brakes[k], x.least(0, 0, 0), leasts[k]);
        }
        read(x, "part 0;part 5;rope 4");
        due("part 0 stands", x.least(0, 6, 0), -5);
        read(x, "part 5;part 0;rope 1");
        due("a pull of 1", x.least(0, 0, 0), 1);
        read(x, "part 5;part 0");
        due("a pull of 0", x.least(0, 0, 0), -5);
    }

    private static void jumps() {
        promise = 10;
        CliffCars x = new CliffCars();
        due("without", x.jump(0, 0, 0), -1);
        read(x, "part 7;head 1;tank 3;brake 50");
        due("7 less 7 is no longer above 0", x.jump(0, 0, 0), 7);
        due("2 up and 3 in the tank: 7 less 7", x.jump(0, 0, 2), 7);
        due("3 up: none at first, none ever", x.jump(0, 0, 3), 0);
        due("none of another sort there is not", x.jump(12, 0, 0), -1);
        due("d", x.jump(0, 7, 0), -2);
        due("u", x.jump(0, 0, -1), -2);
        read(x, "part 60;part 60;head 1;brake 99");
        due("2 down are too fast by 21, so from 21 more on it goes", x.jump(0, 2, 0), 21);
        read(x, "part 99;head 1;tank 0");
        due("99 less 99", x.jump(0, 1, 0), 99);
        read(x, "part 100;head 1;tank 0");
        due("100 less 99 is above 0", x.jump(0, 1, 0), 0);
        x = on("part 1");
        due("a pint for each", x.jump(0, 0, 0), 1);
    }

    private static void coming() {
        promise = 11;
        CliffCars x = new CliffCars();
        due("at first", x.come(0, 0, 6), 0);
        due("the other side", x.come(0, 1, 5), 0);
        due("again", x.come(0, 0, 0), 6);
        due("the other side", x.come(0, 1, 1), 5);
        due("the last step", x.come(11, 1, 2), 0);
        due("step", x.come(12, 0, 9), -1);
        due("step", x.come(-1, 0, 0), -1);
        due("side", x.come(0, 2, 9), -1);
        due("side", x.come(0, -1, 0), -1);
        due("n", x.come(0, 1, 7), -2);
        due("n", x.come(0, 1, -1), -2);
        due("nothing changed", x.come(0, 1, 0), 1);
    }

    private static void weather() {
        promise = 12;
        CliffCars x = new CliffCars();
        due("not wet", x.wet(true), 0);
        due("wet", x.wet(true), 1);
        due("wet", x.wet(false), 1);
        due("not wet", x.wet(false), 0);
    }

    private static void ponds() {
        promise = 13;
        CliffCars x = new CliffCars();
        due("0 alone", x.pond(1), -2);
        due("0", x.pond(0), 0);
        due("below", x.pond(-1), -2);
        read(x, "pond 12");
        due("13", x.pond(13), -2);
        due("12", x.pond(12), 0);
        due("below", x.pond(-1), -2);
        due("was", x.pond(3), 12);
        due("was", x.pond(3), 3);
    }

    private static void rules() {
        promise = 14;
        CliffCars x = new CliffCars();
        due("kind", x.rule(7, 99), -1);
        due("kind", x.rule(-1, 0), -1);
        due("v", x.rule(0, 21), -2);
        due("v", x.rule(0, -1), -2);
        for (int k = 0; k < 12; k++) {
            due("rule " + k, x.rule(k % 7, k == 0 ? 20 : k), k);
        }
        due("full", x.rule(0, 0), -4);
        due("BAD ahead of FULL", x.rule(0, 21), -2);
        due("NONE ahead of FULL", x.rule(7, 0), -1);
        due("count", x.count(1), 12);
    }

    private static void rows() {
        promise = 15;
        CliffCars x = new CliffCars();
        due("no rule", x.row(0, 7), -1);
        x.rule(0, 0);
        x.rule(6, 0);
        due("no rule", x.row(2, 0), -1);
        due("below", x.row(-1, 0), -1);
        due("BAD ahead of STATE", x.row(0, 2), -2);
        due("not TOLD", x.row(0, 1), -3);
        due("n", x.row(1, 2), -2);
        due("n", x.row(1, -1), -2);
        for (int k = 1; k <= 12; k++) {
            due("row " + k, x.row(1, k % 2), k);
        }
        due("full", x.row(1, 0), -4);
        due("BAD ahead of FULL", x.row(1, 5), -2);
    }

    /** Six come BELOW at first and four more in STEP 1, one ABOVE in STEP 1; 20 pints, 2 more in STEP 3, 12 at most then. */
    private static CliffCars crowded() {
        CliffCars x = plain(";spring 2 s=3");
        x.come(0, 1, 6);
        x.come(1, 1, 5);
        x.come(1, 0, 1);
        x.pond(20);
        return x;
    }

    private static void facts(CliffCars x, int rule, int... want) {
        for (int k = 0; k < want.length; k++) {
            int what = k < 6 ? k : k + 4;
            due("day(" + rule + ", " + what + ")", x.day(rule, what), want[k]);
        }
    }

    private static void days() {
        promise = 16;
        CliffCars x = new CliffCars();
        x.rule(0, 0);
        due("no cliff", x.day(0, 0), -1);
        read(x, "part 1;head 2;tank 20;seats 2;pond 20;spring 2 s=3");
        due("nothing happens", x.day(0, 0), 0);
        due("what is left", x.day(0, 4), 2);
        due("no trip", x.day(0, 10), -5);
        due("no such rule", x.day(1, 0), -1);
        due("no such rule", x.day(-1, 0), -1);
        for (int what : new int[] {-1, 6, 7, 8, 9, 22, FAR, FAR_BELOW}) {
            due("what " + what, x.day(0, what), -1);
        }
        x = crowded();
        x.rule(0, 0);
        // 0: 2 of 6 up with 5. 1: 4 and 5 come, 8 stay, 1 is lost; 2 up, 1 down with 3. 2: 2 up with 5, 7 left.
        // 3: 9 left, 2 up with 5. 4: 2 up need 5 of 4: never again.
        int waited = 4 + 6 + 4 + 2 + 8 * 2;
        facts(x, 0, 8, 1, waited, 1, 4, 4, 5, 3, 5, 5, -5, -5, -5, -5, -5, -5, -5, -5);
        due("asking changes nothing", x.day(0, 4), 4);
        x = on("head 2;seats 0");
        x.rule(0, 0);
        x.come(0, 0, 6);
        x.come(1, 0, 6);
        facts(x, 0, 0, 0, 6 + 8 * 11, 4, 0, 0, -5);
        x = on("head 2;seats 6;pond 5;spring 9 s=0");
        x.rule(0, 0);
        x.come(0, 0, 3);
        x.come(0, 1, 4);
        x.come(11, 1, 6);
        // the POND keeps 5 of 9; part 5: 3 down, 4 up need 3 pints; in the last STEP 6 up need 13 of 2
        facts(x, 0, 4, 3, 6, 0, 2, 1, 3, -5, -5, -5, -5, -5, -5, -5, -5, -5, -5, -5);
    }

    private static void daysOfEachKind() {
        promise = 16;
        CliffCars x = plain("");
        x.come(0, 1, 1);
        x.come(2, 1, 2);
        x.come(9, 1, 1);
        x.pond(20);
        x.rule(0, 0);
        x.rule(1, 0);
        x.rule(2, 3);
        x.rule(3, 2);
        x.rule(6, 0);
        // RULE: 1 up with 3, 2 up with 5, 1 up with 3
        facts(x, 0, 4, 0, 0, 0, 9, 3, 3, -5, 5, -5, -5, -5, -5, -5, -5, 3, -5, -5);
        // FULL: waits in 0, 1; 2 of 3 in 2; the one left waits until 9, then 2 go
        facts(x, 1, 4, 0, 1 + 1 + 7, 0, 10, 2, -5, -5, 5, -5, -5, -5, -5, -5, -5, 5, -5, -5);
        // BELL by 4: in 0, 4, 8
        facts(x, 2, 3, 0, 2 + 2 + 3, 0, 12, 2, 3, -5, -5, -5, 5, -5, -5, -5, -5, -5, -5, -5);
        // THRIFT of 2: 3 for one or 5 for two is too much; at the last STEP 2 of 4 go
        facts(x, 3, 2, 0, 2 + 3 * 7 + 4 * 2 + 2, 0, 15, 1, -5, -5, -5, -5, -5, -5, -5, -5, -5, -5, -5, 5);
        // TOLD without a ROW, then with 1, 0, 0, 1
        facts(x, 4, 0, 0, 2 + 3 * 7 + 4 * 3, 0, 20, 0);
        x.row(4, 1);
        x.row(4, 0);
        x.row(4, 0);
        x.row(4, 1);
        facts(x, 4, 3, 0, 2 + 3, 0, 12, 2, 3, -5, -5, 5, -5, -5, -5, -5, -5, -5, -5, -5);
        x.rule(3, 3);
        facts(x, 5, 4, 0, 0, 0, 9, 3, 3, -5, 5);
        x.rule(1, 0);
        x.come(9, 1, 0);
        // FULL in the last STEP takes the one that is left
        facts(x, 6, 3, 0, 1 + 1 + 9, 0, 12, 2, -5, -5, 5, -5, -5, -5, -5, -5, -5, -5, -5, 3);
        x.rule(2, 0);
        x.come(1, 1, 1);
        // BELL by 1: in each STEP, as RULE does
        facts(x, 7, 4, 0, 0, 0, 20 - 3 - 3 - 5, 3, 3, 3, 5, -5);
        x = plain("");
        x.rule(1, 0);
        x.come(0, 1, 5);
        x.pond(20);
        // FULL: more than there are seats wait
        facts(x, 0, 5, 0, 3 + 1 + 10 - 1, 0, 7, 3, 5, 5, -5);
    }

    private static void bestDays() {
        promise = 16;
        CliffCars x = plain("");
        x.rule(4, 0);
        x.rule(5, 3);
        x.rule(5, 20);
        x.come(0, 1, 1);
        x.come(1, 1, 1);
        x.come(4, 0, 2);
        x.pond(5);
        // one alone costs 3, two together 5, but with the two from ABOVE 1; none is the SAME until the last STEP
        int all = 1 + 2 * 10 + 2 * 7;
        facts(x, 0, 2, 2, all, 0, 4, 1, -5, -5, -5, -5, -5, -5, -5, -5, -5, -5, -5, 1);
        facts(x, 1, 2, 2, all, 0, 4, 1, -5, -5, -5, -5, -5, -5, -5, -5, -5, -5, -5, 1);
        // SPARE 20: no TRIP can leave that
        facts(x, 2, 0, 0, 1 + 2 * 3 + 2 * 8 + 2 * 8, 0, 5, 0, -5, -5, -5, -5, -5);
        x.come(4, 0, 0);
        x.rule(5, 1);
        facts(x, 0, 2, 0, 1 + 2 * 10, 0, 0, 1, -5, -5, -5, -5, -5, -5, -5, -5, -5, -5, -5, 5);
        // SPARE 1: two together would leave 0, so one alone as long as it is, and for the other there is not enough
        facts(x, 3, 1, 0, 11, 0, 2, 1, 3, -5);
        x.rule(5, 2);
        x.rule(5, 3);
        // to leave just v is enough
        facts(x, 4, 1, 0, 11, 0, 2, 1, 3);
        facts(x, 5, 0, 0, 1 + 2 * 11, 0, 5, 0);
        x.come(1, 1, 0);
        x.pond(2);
        x.come(0, 0, 2);
        x.rule(5, 2);
        // two down and one up need no water, yet in a POND of 2 a spare of 3 is not there
        facts(x, 6, 1, 2, 3 * 11, 0, 2, 1);
        facts(x, 5, 0, 0, 3 * 12, 0, 2, 0);
        x = plain("");
        x.rule(4, 0);
        x.come(0, 0, 1);
        x.pond(9);
        // down alone brings no WORTH and costs nothing: the SAME, so none
        facts(x, 0, 0, 0, 12, 0, 9, 0);
    }

    private static void waiting() {
        promise = 17;
        CliffCars x = new CliffCars();
        due("no cliff", x.waits(0, 0, 0, 0, 0), NO);
        read(x, "part 1;head 2;tank 20;seats 2;pond 20;spring 1 s=11");
        x.come(11, 1, 1);
        due("none waits: one comes, 3 of 10 and 1", x.waits(11, 10, 0, 0, 0), 108);
        due("a trip is worth 100 less 3", x.waits(11, 10, 0, 0, 1), 97);
        due("2 and the spring", x.waits(11, 2, 0, 0, 0), 100);
        due("1 and the spring", x.waits(11, 1, 0, 0, 0), 2);
        due("so it can't be", x.waits(11, 1, 0, 0, 1), -99999);
        due("8 and 1 wait, 2 go", x.waits(11, 20, 0, 8, 0), 215);
        due("nobody there", x.waits(0, 20, 0, 0, 1), -99999);
        // two wait: now 5 pints, then 3 for the one that comes, or the one of three that stays
        due("two now and one later", x.waits(0, 10, 0, 2, 0), 300 + 10 - 5 + 1 - 3);
        due("or only later two of three: one more by a trip now", x.waits(10, 10, 0, 2, 1), 303 - 206);
        due("in the last STEP but one, no haste", x.waits(9, 10, 0, 2, 1), 0);
        // one ABOVE alone goes for nothing, but could lighten the one that comes up: 1 pint and not 3
        due("a trip may be worth less than none", x.waits(10, 10, 1, 0, 1), 108 - 110);
        due("pond 0", x.waits(11, 0, 0, 0, 0), 1);
        due("2 of 3 ABOVE go down with the one up, for nothing", plainWaits(), 100 + 100 - 101);
        due("step", x.waits(12, 0, 0, 0, 0), NO);
        due("step", x.waits(-1, 0, 0, 0, 0), NO);
        due("pond", x.waits(0, 21, 0, 0, 0), NO);
        due("pond", x.waits(0, -1, 0, 0, 0), NO);
        due("above", x.waits(0, 0, 9, 0, 0), NO);
        due("above", x.waits(0, 0, -1, 0, 0), NO);
        due("below", x.waits(0, 0, 0, 9, 0), NO);
        due("below", x.waits(0, 0, 0, -1, 0), NO);
        due("what", x.waits(0, 0, 0, 0, 2), NO);
        due("what", x.waits(0, 0, 0, 0, -1), NO);
    }

    private static long plainWaits() {
        CliffCars x = plain("");
        x.come(11, 0, 3);
        x.come(11, 1, 1);
        return x.waits(11, 0, 8, 0, 1) + x.waits(11, 1, 0, 0, 1) - (x.waits(11, 5, 6, 0, 0) - 4);
    }

    private static void bells() {
        promise = 18;
        CliffCars x = new CliffCars();
        due("no cliff", x.bell(), -1);
        read(x, "part 1;head 2;tank 20;seats 2;pond 20");
        due("all the same: the least", x.bell(), 0);
        x.pond(20);
        x.come(4, 1, 1);
        x.come(5, 1, 1);
        // by 1: 3 and 3; by 2: in 4, 6: 3 and 3; by 3: in 6 both with 5; by 6 too
        due("the least of the best", x.bell(), 2);
        x.come(4, 1, 0);
        due("one in 5: by 1 already", x.bell(), 0);
        x.come(11, 1, 1);
        x.come(10, 1, 1);
        x.come(5, 1, 0);
        due("both in 11: by 11 alone", x.bell(), 10);
        x = on("part 1;head 0;seats 1");
        x.pond(20);
        x.come(0, 1, 1);
        x.come(1, 0, 2);
        // every TRIP costs a pint, and those down bring nothing: the one in STEP 0 alone
        due("by 11 there is no second one", x.bell(), 11);
    }

    private static void crowds() {
        promise = 19;
        CliffCars x = new CliffCars();
        due("no cliff", x.whit(), -1);
        read(x, "part 1;head 2;tank 20;seats 2;pond 40");
        due("nobody comes", x.whit(), -5);
        x.pond(40);
        x.come(0, 1, 1);
        due("six in twelve steps: 15 pints", x.whit(), -5);
        x.come(11, 1, 1);
        due("three times one in the last STEP", x.whit(), 3);
        x.come(11, 1, 0);
        x.pond(12);
        due("five need 5, 5 and 3", x.whit(), 5);
        x.come(0, 1, 4);
        x.pond(20);
        due("6 at most: 15 pints", x.whit(), -5);
        x.pond(2);
        due("already", x.whit(), 1);
        x.pond(15);
        due("just enough for 6", x.whit(), -5);
        x.pond(14);
        due("just not enough for 6", x.whit(), 2);
        due("what is asked changes nothing", x.come(0, 1, 0), 4);
        x = on("part 1;head 0;seats 5");
        x.pond(20);
        x.come(11, 1, 1);
        due("six times one, and five seats", x.whit(), 6);
    }

    private static void offers() {
        promise = 20;
        CliffCars x = new CliffCars();
        due("sort", x.offer(4, 0, 0), -1);
        due("sort", x.offer(-1, 1, 1), -1);
        due("size", x.offer(0, 0, 1), -2);
        due("size", x.offer(0, 21, 1), -2);
        due("price", x.offer(0, 1, 100), -2);
        due("price", x.offer(0, 1, -1), -2);
        for (int k = 0; k < 4; k++) {
            due("offer " + k, x.offer(k, k == 0 ? 20 : 1, k == 0 ? 99 : 0), k);
        }
        due("full", x.offer(0, 1, 1), -4);
        due("BAD ahead of FULL", x.offer(0, 0, 1), -2);
        due("count", x.count(2), 4);
    }

    private static void buying() {
        promise = 21;
        CliffCars x = new CliffCars();
        due("no cliff", x.buy(1000), -1);
        read(x, "part 1;head 3;tank 3;seats 1;pond 9");
        due("purse", x.buy(1000), -2);
        due("purse", x.buy(-1), -2);
        due("nothing offered", x.buy(999), 0);
        x.come(0, 1, 2);
        x.pond(9);
        // 1 up needs 4 pints, 2 up need 7: the tank holds 3
        x.offer(0, 1, 10);
        due("a tank of 4", x.buy(10), 1);
        due("too dear", x.buy(9), 0);
        // with seats for 2 a tank of 7 is wanted: 7 pints, where two TRIPS need 8
        x.offer(0, 3, 20);
        x.offer(1, 1, 5);
        due("a tank of 4 or 6 alone: the cheaper", x.buy(34), 1);
        due("both tanks and seats: 202", x.buy(35), 7);
        x.offer(0, 4, 30);
        due("a tank of 7 and seats for as much: the least as bits", x.buy(35), 7);
        due("more is not better", x.buy(999), 7);
        x = on("part 1;head 3;tank 4;seats 1;pond 3");
        x.come(0, 1, 2);
        x.offer(3, 1, 7);
        x.offer(2, 1, 7);
        due("without spring nothing", x.buy(7), 2);
        // 1 in each STEP: with a pond of 4 two go up and 4 are left; with 3 none goes: just 3 left
        due("pond and spring", x.buy(14), 3);
        due("spring alone leaves 3", x.buy(13), 2);
        x = on("part 1;head 3;tank 60;seats 6;pond 40");
        x.pond(40);
        x.come(0, 1, 6);
        x.offer(0, 20, 0);
        x.offer(1, 20, 0);
        x.offer(3, 20, 0);
        due("no more than most: none is needed", x.buy(0), 0);
        x = on("part 1;head 3;tank 3");
        x.pond(20);
        x.come(0, 1, 1);
        x.offer(0, 1, 4);
        x.offer(0, 1, 3);
        x.offer(0, 2, 3);
        due("of the same price the least as bits", x.buy(99), 2);
        due("of the same WORTH the cheapest", x.buy(3), 2);
        due("what is asked changes nothing", x.of(4), 3);
        x = on("part 1;head 0;seats 1;pond 3");
        x.come(11, 1, 3);
        x.pond(1);
        x.offer(1, 1, 1);
        x.offer(1, 2, 2);
        due("seats for 2", x.buy(1), 1);
        due("seats for 3, with the last pint", x.buy(2), 2);
        due("seats for 4 are no better", x.buy(3), 2);
        x = on("part 1;head 0;seats 1;pond 3;spring 9 s=0");
        x.offer(3, 1, 1);
        x.offer(3, 2, 2);
        due("a pond of 4", x.buy(1), 1);
        due("a pond of 5", x.buy(2), 2);
        due("a pond of 6", x.buy(3), 3);
    }

    private static void row(CliffCars x, int tape, int... items) {
        x.tape(tape, 2, items.length);
        for (int k = 0; k < items.length; k++) {
            x.item(tape, k, items[k]);
        }
    }

    private static void judging() {
        promise = 22;
        CliffCars x = new CliffCars();
        due("no cliff", x.judge(0, 0), -1);
        read(x, "part 1;head 2;tank 6;seats 2;pond 20;brake 9;spring 1 s=2");
        due("tape", x.judge(6, 0), -1);
        due("tape", x.judge(-1, 0), -1);
        due("nothing there", x.judge(0, 0), 100);
        x.tape(0, 3, 12);
        due("longs", x.judge(0, 0), -12);
        due("longs, at a place below 0", x.judge(0, -1), -12);
        x.tape(0, 4, 12);
        due("booleans", x.judge(0, 0), -12);
        x.tape(0, 2, 0);
        due("a row of none", x.judge(0, 0), 100);
        x.come(0, 1, 3);
        x.come(3, 0, 2);
        x.pond(10);
        row(x, 1, -1, -1, -1, -1, -1, -1, -1, -1, -1, -1, -1, -1);
        due("no trips", x.judge(1, 0), -5);
        due("from 1 on", x.judge(1, 1), 111);
        due("from 11 on", x.judge(1, 11), 101);
        due("from 12 on", x.judge(1, 12), 100);
        due("far", x.judge(1, FAR), 100);
        due("below 0", x.judge(1, -1), 100);
        due("far below", x.judge(1, FAR_BELOW), 100);
        row(x, 2, 5, -1, 3, 0, -1, -1, -1, -1, -1, -1, -1, -1);
        due("5, then 3, then 2 down with none", x.judge(2, 0), -5);
        x.item(2, 0, 6);
        due("6 goes too", x.judge(2, 0), -5);
        x.item(2, 0, 4);
        due("4 stands", x.judge(2, 0), 0);
        x.item(2, 0, 7);
        due("7 is more than tank", x.judge(2, 0), 0);
        x.item(2, 0, 5);
        x.item(2, 1, -2);
        due("-2", x.judge(2, 0), 1);
        x.item(2, 1, -1);
        x.item(2, 4, 0);
        due("nobody goes", x.judge(2, 0), 4);
        x.item(2, 4, -1);
        x.item(2, 3, 6);
        due("more than the POND has: 10 less 5 and 1 less 3", x.judge(2, 0), 3);
        x.pond(13);
        due("6 and 4 are too fast", x.judge(2, 0), 3);
        x.item(2, 3, 5);
        due("5 and 4 are just brake", x.judge(2, 0), -5);
        x.pond(9);
        due("all that the POND has: 9 less 5 and 1 less 3 is 2", x.judge(2, 0), 3);
        x.item(2, 3, 2);
        due("just as much", x.judge(2, 0), -5);
        x.item(2, 3, -1);
        x.come(3, 0, 0);
        x.item(2, 5, 1);
        due("1 pint would go, but nobody", x.judge(2, 0), 5);
        row(x, 3, 77, 5, -1, 3);
        due("from place 1 on", x.judge(3, 1), 103);
        due("from place 0 on", x.judge(3, 0), 0);
        x.item(3, 1, FAR);
        due("far", x.judge(3, 1), 0);
    }

    private static void images() {
        promise = 23;
        CliffCars x = new CliffCars();
        due("none", x.undo(), -3);
        due("without cliff", x.image(), 0);
        read(x, "pond 30");
        read(x, "pond 9");
        x.choose(0);
        x.pond(17);
        due("the POND", x.image(), 17);
        promise = 24;
        x.come(3, 1, 4);
        x.come(3, 0, 2);
        x.wet(true);
        x.offer(0, 1, 1);
        x.rule(0, 5);
        x.choose(1);
        read(x, "part 3");
        feed(x, "par");
        x.tape(0, 2, 3);
        due("undo", x.undo(), 17);
        due("the cliff", x.count(4), 0);
        due("cliffs stay", x.count(0), 3);
        due("rules stay", x.count(1), 1);
        due("offers", x.count(2), 0);
        due("text stays", x.count(3), 3);
        due("tapes stay", x.read(0, 2), 0);
        due("come", x.come(3, 1, 1), 0);
        due("come", x.come(3, 0, 1), 0);
        due("wet", x.wet(true), 0);
        due("pond", x.pond(2), 17);
        due("again", x.undo(), 17);
        due("come again", x.come(3, 1, 0), 0);
        x.offer(1, 1, 1);
        due("another image", x.image(), 17);
        x.offer(2, 1, 1);
        x.undo();
        due("offers", x.count(2), 1);
        x.offer(3, 2, 2);
        due("a place is free again", x.count(2), 2);
    }

    /** A RULE of each KIND, all with v 3; the number of each is its KIND. */
    private static CliffCars ofAllKinds() {
        CliffCars x = new CliffCars();
        for (int k = 0; k < 7; k++) {
            x.rule(k, 3);
        }
        return x;
    }

    private static void act(CliffCars x, int rule, int act, int n, int want, int... bodies) {
        due("act(" + rule + ", " + act + ", " + n + ")", x.act(rule, act, n), want);
        due("how many ran", x.count(5), bodies.length);
        for (int k = 0; k < bodies.length; k++) {
            due("trace(" + k + ") of act(" + rule + ", " + act + ")", x.trace(k), bodies[k]);
        }
        due("none behind", x.trace(bodies.length), -1);
    }

    private static void acts() {
        promise = 25;
        CliffCars x = ofAllKinds();
        act(x, 0, 0, 10, 10, 10);
        act(x, 0, 1, 10, 7, 11, 10);
        act(x, 0, 2, 10, 14, 12, 11, 10);
        act(x, 1, 0, 10, 11, 10);
        act(x, 1, 1, 10, (11 - 3) ^ 6, 20, 11, 10);
        act(x, 1, 2, 10, 28, 12, 20, 11, 10);
        act(x, 2, 0, 10, 32, 30, 10);
        act(x, 2, 1, 10, 29, 11, 30, 10);
        act(x, 2, 2, 10, 58, 12, 11, 30, 10);
        act(x, 3, 0, 10, 13, 10);
        act(x, 3, 1, 10, 10, 11, 10);
        act(x, 3, 2, 10, 20 + (1 + 3 - 3), 40, 12, 11, 10, 11, 10);
        act(x, 4, 0, 10, -14, 50, 10);
        act(x, 4, 1, 10, -17, 11, 50, 10);
        act(x, 4, 2, 10, (-10 - 3) * 2, 51, 12, 11, 50, 10);
        act(x, 5, 0, 10, -15, 50, 10);
        act(x, 5, 1, 10, -15 - 3 - 7, 60, 11, 50, 10, 50, 10);
        act(x, 5, 2, 10, (-10 - 3 - 7) * 2, 51, 12, 60, 11, 50, 10, 50, 10);
        act(x, 6, 0, 10, 16, 10);
        act(x, 6, 1, 10, 13, 11, 10);
        act(x, 6, 2, 10, 13 - 26, 70, 11, 10, 12, 11, 10);
        act(x, 0, 2, FAR, (FAR - 3) * 2, 12, 11, 10);
        act(x, 2, 0, FAR, FAR * 3 + 2, 30, 10);
        act(x, 4, 0, FAR_BELOW, -(FAR_BELOW + 4), 50, 10);
        act(x, 7, 0, 10, 0);
        act(x, 6, 2, 10, -13, 70, 11, 10, 12, 11, 10);
        act(x, 6, 3, 10, 0);
        act(x, 0, 0, 1, 1, 10);
        act(x, -1, 0, 10, 0);
        act(x, 0, -1, 10, 0);
    }

    private static void traces() {
        promise = 26;
        CliffCars x = ofAllKinds();
        due("none yet", x.trace(0), -1);
        x.act(5, 2, 1);
        due("first", x.trace(0), 51);
        due("last", x.trace(7), 10);
        due("beyond", x.trace(8), -1);
        due("below", x.trace(-1), -1);
        due("far", x.trace(FAR), -1);
        due("far below", x.trace(FAR_BELOW), -1);
        x.act(0, 0, 1);
        due("the latest alone", x.trace(1), -1);
    }

    private static void takings() {
        promise = 27;
        CliffCars x = ofAllKinds();
        for (int kind = 0; kind < 7; kind++) {
            for (int k = 0; k < 7; k++) {
                boolean under = k == 0 || k == kind || k == 4 && kind == 5;
                due("taken(" + kind + ", " + k + ")", x.taken(kind, k), under ? kind : -12);
            }
        }
        due("k", x.taken(0, 7), -2);
        due("k ahead of the rule", x.taken(7, -1), -2);
        due("no rule", x.taken(7, 0), -11);
        due("no rule", x.taken(-1, 6), -11);
    }

    private static void counts() {
        promise = 28;
        CliffCars x = ofAllKinds();
        due("rules", x.count(1), 7);
        x.offer(0, 1, 1);
        due("offers", x.count(2), 1);
        feed(x, "rope 1");
        due("bytes", x.count(3), 6);
        x.cliff();
        due("cliffs", x.count(0), 1);
        due("bytes", x.count(3), 0);
        due("the cliff", x.count(4), 0);
        x.act(4, 2, 0);
        due("bodies", x.count(5), 5);
        due("beyond", x.count(6), -2);
        due("below", x.count(-1), -2);
    }

    private static void tapes() {
        promise = 29;
        CliffCars x = new CliffCars();
        for (int sort = 0; sort < 5; sort++) {
            due("tape of sort " + sort, x.tape(sort, sort, 60), 1);
            due("its last", x.read(sort, 59), 0);
            due("beyond", x.read(sort, 60), NO);
        }
        due("of none", x.tape(5, 0, 0), 1);
        due("it has none", x.read(5, 0), NO);
        due("but it is there", x.item(5, 0, 0), -13);
        due("tape", x.tape(6, 9, -1), -1);
        due("tape", x.tape(-1, 0, 0), -1);
        due("sort", x.tape(0, 5, -1), -2);
        due("sort", x.tape(0, -2, 0), -2);
        due("n", x.tape(0, 0, 61), -2);
        due("size", x.tape(0, 0, -1), -14);
        due("far size", x.tape(0, 0, FAR_BELOW), -14);
        due("far", x.tape(0, 0, FAR), -2);
        due("nothing changed", x.read(0, 59), 0);
        x.item(0, 3, 9);
        due("holds nothing", x.tape(0, -1, 61), 1);
        due("nothing to read", x.read(0, 0), NO);
        due("nothing", x.item(0, 0, 1), -11);
        due("holds nothing", x.tape(1, -1, -1), 1);
        due("a new row", x.tape(0, 0, 4), 1);
        due("is all 0", x.read(0, 3), 0);
        x.item(0, 0, 5);
        x.item(0, 3, 6);
        due("again a row", x.tape(0, 2, 4), 1);
        same(x, 0, 0, 0, 0, 0);
    }

    private static void items() {
        promise = 30;
        CliffCars x = new CliffCars();
        for (int sort = 0; sort < 5; sort++) {
            x.tape(sort, sort, 2);
        }
        long v = 0x1122334455668899L;
        long[] lowest = {(byte) 0x99, (short) 0x8899, 0x55668899, v, 1};
        for (int sort = 0; sort < 5; sort++) {
            due("item", x.item(sort, 1, v), 1);
            due("lowest bits of sort " + sort, x.read(sort, 1), lowest[sort]);
            due("the other", x.read(sort, 0), 0);
        }
        x.item(4, 1, 0);
        due("false", x.read(4, 1), 0);
        x.item(4, 1, 1L << 40);
        due("true", x.read(4, 1), 1);
        x.item(2, 0, 1L << 31);
        due("an int's sign", x.read(2, 0), FAR_BELOW);
        due("tape", x.item(6, 9, 1), -1);
        due("tape", x.item(-1, 0, 1), -1);
        due("nothing", x.item(5, -1, 1), -11);
        due("place", x.item(0, 2, 1), -13);
        due("place", x.item(0, -1, 1), -13);
        due("place", x.item(0, FAR, 1), -13);
    }

    private static void readings() {
        promise = 31;
        CliffCars x = new CliffCars();
        due("nothing", x.read(0, 0), NO);
        x.tape(0, 3, 3);
        x.item(0, 2, -7);
        due("item", x.read(0, 2), -7);
        due("place", x.read(0, 3), NO);
        due("place", x.read(0, -1), NO);
        due("place", x.read(0, FAR_BELOW), NO);
        due("tape", x.read(6, 0), NO);
        due("tape", x.read(-1, 0), NO);
    }

    private static void same(CliffCars x, int tape, int... want) {
        for (int k = 0; k < want.length; k++) {
            due("read(" + tape + ", " + k + ")", x.read(tape, k), want[k]);
        }
    }

    private static void shifts() {
        promise = 32;
        CliffCars x = new CliffCars();
        row(x, 0, 1, 2, 3, 4, 5);
        row(x, 1, 9, 8, 7);
        due("shift", x.shift(0, 1, 1, 0, 2), 2);
        same(x, 1, 2, 3, 7);
        due("onto itself, up", x.shift(0, 0, 0, 1, 4), 4);
        same(x, 0, 1, 1, 2, 3, 4);
        due("onto itself, down", x.shift(0, 1, 0, 0, 4), 4);
        same(x, 0, 1, 2, 3, 4, 4);
        due("none", x.shift(0, 5, 1, 3, 0), 0);
        due("all", x.shift(1, 0, 0, 2, 3), 3);
        same(x, 0, 1, 2, 2, 3, 7);
        due("tape", x.shift(6, 0, 9, 0, 1), -1);
        due("tape", x.shift(0, 0, -1, 0, 1), -1);
        due("nothing", x.shift(0, 0, 2, -1, 1), -11);
        due("nothing", x.shift(2, 0, 0, 0, 1), -11);
        x.tape(3, 0, 5);
        due("unlike", x.shift(0, 0, 3, -1, 0), -12);
        due("unlike", x.shift(3, 0, 0, 0, 1), -12);
        due("n", x.shift(0, 0, 1, 0, -1), -13);
        due("i", x.shift(0, -1, 1, 0, 1), -13);
        due("j", x.shift(0, 0, 1, -1, 1), -13);
        due("beyond", x.shift(0, 4, 1, 0, 2), -13);
        due("beyond", x.shift(0, 0, 1, 2, 2), -13);
        due("beyond, none", x.shift(0, 6, 1, 0, 0), -13);
        due("far", x.shift(0, FAR, 1, 0, FAR), -13);
        due("far", x.shift(0, 0, 1, FAR, 1), -13);
        same(x, 0, 1, 2, 2, 3, 7);
        same(x, 1, 2, 3, 7);
    }
}
