/** The edges of PULL, of LEAST and of JUMP ("Terms" 1 and 3), and of promises 7 to 10. */
public final class LoadEdges {
    private static final int NONE = Answers.NONE, BAD = Answers.BAD, NOT_ANY = Answers.NOT_ANY;
    private static final int FAR = Answers.FAR, FAR_BELOW = Answers.FAR_BELOW;
    private static final long NO = Answers.NO;

    public static void main(String[] args) {
        pullByHand();
        pullOfGreatNumbers();
        pullOfNone();
        standsAndGoes();
        tooFast();
        whicheverComesFirst();
        brakes();
        stopsOfNone();
        leastAndTank();
        leastAndBrake();
        leastOfHeads();
        leastOfParts();
        leastInSteps();
        leastOfNone();
        jumpsUpTo99();
        jumpsToNone();
        jumpsFromNone();
        jumpsInSteps();
        jumpOfNone();
        Answers.end();
    }

    private static void due(String what, long got, long want) {
        Answers.due(what, got, want);
    }

    private static void pullByHand() {
        Answers.sentence("the PART times (head times (d less u), and w), and rope times (2 k less P, and 1), less DRAG");
        for (int many = 1; many <= 5; many++) {
            String text = "rope 7;head 3;drag 5 s=11";
            for (int k = 0; k < many; k++) {
                text += ";part " + (k + 2);
            }
            CliffCars x = Answers.on(text);
            for (int k = 0; k < many; k++) {
                int rope = 7 * (2 * k - many + 1);
                due("nothing, PART " + k + " of " + many, x.pull(k, 0, 0, 0, 0), rope);
                due("one down, PART " + k + " of " + many, x.pull(k, 0, 1, 0, 0), (k + 2) * 3 + rope);
                due("one up, PART " + k + " of " + many, x.pull(k, 0, 0, 1, 0), -(k + 2) * 3 + rope);
                due("one pint, PART " + k + " of " + many, x.pull(k, 0, 0, 0, 1), (k + 2) + rope);
                due("drag, PART " + k + " of " + many, x.pull(k, 11, 0, 0, 0), rope - 5);
                due("all, PART " + k + " of " + many, x.pull(k, 11, 6, 2, 9), (k + 2) * (3 * 4 + 9) + rope - 5);
            }
            due("one PART too far of " + many, x.pull(many, 0, 0, 0, 0), NO);
        }
        CliffCars x = Answers.on("part 4;head 0;rope 9");
        due("a head of no weight, one PART's rope", x.pull(0, 0, 6, 0, 2), 8);
        x = Answers.on("part 0;head 999");
        due("a PART of 0", x.pull(0, 0, 6, 0, 99), 0);
        x = Answers.on("part 1");
        due("a head of 10 without", x.pull(0, 0, 1, 0, 0), 10);
    }

    private static void pullOfGreatNumbers() {
        Answers.sentence("n 1 to 3 digits: the greatest PULL, the least");
        CliffCars x = Answers.on("part 999;part 999;part 999;part 999;part 999;head 999;rope 999");
        due("greatest", x.pull(4, 0, 6, 0, 99), 999L * (999 * 6 + 99) + 999 * 4);
        due("least", x.pull(0, 0, 0, 6, 0), -999L * 999 * 6 - 999 * 4);
        due("middle", x.pull(2, 0, 0, 0, 99), 999L * 99);
        x = Answers.on("part 999;head 999;drag 999 s<9;drag 999 s<9;drag 999 s<9;drag 999 s<9;drag 999 s<9");
        due("with DRAG", x.pull(0, 8, 0, 6, 0), -999L * 999 * 6 - 5 * 999);
        due("without DRAG", x.pull(0, 9, 0, 6, 0), -999L * 999 * 6);
    }

    private static void pullOfNone() {
        Answers.sentence("pull: NO: no CLIFF, such PART, STEP; d, u (0 .. 6), w (0 .. 99)");
        due("no CLIFF", Answers.noCliff().pull(0, 0, 0, 0, 0), NO);
        CliffCars x = Answers.on("part 1;part 2;head 1");
        due("the first of all", x.pull(0, 0, 0, 0, 0), 0);
        due("the last of all", x.pull(1, 11, 6, 6, 99), 198);
        for (int part : new int[] {FAR_BELOW, -1, 2, 4, 5, FAR}) {
            due("PART " + part, x.pull(part, 0, 0, 0, 0), NO);
        }
        for (int step : new int[] {FAR_BELOW, -1, 12, FAR}) {
            due("STEP " + step, x.pull(0, step, 0, 0, 0), NO);
        }
        for (int n : new int[] {FAR_BELOW, -1, 7, FAR}) {
            due("d " + n, x.pull(0, 0, n, 0, 0), NO);
            due("u " + n, x.pull(0, 0, 0, n, 0), NO);
        }
        for (int w : new int[] {FAR_BELOW, -1, 100, FAR}) {
            due("w " + w, x.pull(0, 0, 0, 0, w), NO);
        }
        due("d, u beyond the seats", x.pull(0, 0, 6, 5, 0), 1);
        due("w beyond the tank", x.pull(0, 0, 0, 0, 99), 99);
    }

    /** PULLS of load less 2, load, load and 2 at three PARTS. */
    private static CliffCars rising(int brake) {
        return Answers.on("part 1;part 1;part 1;rope 1;head 1;brake " + brake);
    }

    /** PULLS of thrice, twice, once the load, less 1, 2, 3 in the STEPS of that number. */
    private static CliffCars falling() {
        return Answers.on("part 3;part 2;part 1;head 1;drag 1 s=1;drag 2 s=2;drag 3 s=3;brake 10");
    }

    private static void standsAndGoes() {
        Answers.sentence("It GOES, if the PULL is above 0 at all PARTS; it STANDS at the first at which it is 0 or less");
        CliffCars x = rising(10);
        due("0, 2, 4", x.stops(0, 0, 0, 2), 0);
        due("1, 3, 5", x.stops(0, 0, 0, 3), NOT_ANY);
        due("-1, 1, 3", x.stops(0, 0, 0, 1), 0);
        due("-7, -5, -3", x.stops(0, 0, 5, 0), 0);
        x = falling();
        due("0, 0, 0", x.stops(0, 0, 0, 0), 0);
        due("3, 2, 1", x.stops(0, 0, 0, 1), NOT_ANY);
        due("2, 1, 0", x.stops(1, 0, 0, 1), 2);
        due("1, 0, -1", x.stops(2, 0, 0, 1), 1);
        due("0, -1, -2", x.stops(3, 0, 0, 1), 0);
        due("3, 1, -1", x.stops(3, 1, 0, 1), 2);
        due("6, 3, 0", x.stops(3, 2, 0, 1), 2);
        due("1, -1, -2", x.stops(2, 0, 0, 1), 1);
        x = Answers.on("part 5;part 5;part 5;part 5;part 0");
        due("the fifth PART", x.stops(0, 1, 0, 0), 4);
        x = Answers.on("part 5;part 5;part 5;part 0;part 5");
        due("the fourth PART", x.stops(0, 1, 0, 0), 3);
        x = Answers.on("part 5");
        due("a PART alone", x.stops(0, 1, 0, 0), NOT_ANY);
    }

    private static void tooFast() {
        Answers.sentence("no more than brake at all PARTS; it is TOO FAST at the first at which it is more than brake");
        CliffCars x = rising(10);
        due("6, 8, 10", x.stops(0, 0, 0, 8), NOT_ANY);
        due("7, 9, 11", x.stops(0, 0, 0, 9), 102);
        due("8, 10, 12", x.stops(0, 0, 0, 10), 102);
        due("9, 11, 13", x.stops(0, 0, 0, 11), 101);
        due("10, 12, 14", x.stops(0, 0, 0, 12), 101);
        due("11, 13, 15", x.stops(0, 0, 0, 13), 100);
        due("99 and more", x.stops(0, 6, 0, 99), 100);
        x = Answers.on("part 1;part 1;part 1;part 1;part 2;brake 10");
        due("the fifth PART, 10", x.stops(0, 0, 0, 5), NOT_ANY);
        due("the fifth PART, 12", x.stops(0, 0, 0, 6), 104);
        x = Answers.on("part 1;part 1;part 1;part 2;part 1;brake 10");
        due("the fourth PART, 12", x.stops(0, 0, 0, 6), 103);
    }

    private static void whicheverComesFirst() {
        Answers.sentence("whichever comes first");
        CliffCars x = Answers.on("part 0;part 9;brake 5;rope 1");
        due("-1, then 91", x.stops(0, 1, 0, 0), 0);
        x = Answers.on("part 9;part 0;brake 5");
        due("90, then 0", x.stops(0, 1, 0, 0), 100);
        x = Answers.on("part 1;part 9;part 0;brake 10");
        due("10, 90, 0", x.stops(0, 1, 0, 0), 101);
        x = Answers.on("part 1;part 0;part 9;brake 10");
        due("10, 0, 90", x.stops(0, 1, 0, 0), 1);
    }

    private static void brakes() {
        Answers.sentence("brake n; without: 999");
        CliffCars x = Answers.on("part 1;head 1;brake 0");
        due("brake 0, PULL 0", x.stops(0, 0, 0, 0), 0);
        due("brake 0, PULL 1", x.stops(0, 0, 0, 1), 100);
        due("brake 0: no LEAST", x.least(0, 0, 0), NOT_ANY);
        x = Answers.on("part 1;head 1;brake 1");
        due("brake 1, PULL 1", x.stops(0, 0, 0, 1), NOT_ANY);
        due("brake 1, PULL 2", x.stops(0, 0, 0, 2), 100);
        x = Answers.on("part 999");
        due("without, PULL 999", x.stops(0, 0, 0, 1), NOT_ANY);
        due("without, PULL 1998", x.stops(0, 0, 0, 2), 100);
        x = Answers.on("part 500;brake 999");
        due("brake 999, PULL 1000", x.stops(0, 0, 0, 2), 100);
        x = Answers.on("part 3;head 333");
        due("PULL 999 by a head", x.stops(0, 1, 0, 0), NOT_ANY);
        x = Answers.on("part 2;head 500");
        due("PULL 1000 by a head", x.stops(0, 1, 0, 0), 100);
    }

    private static void stopsOfNone() {
        Answers.sentence("stops: NONE: step, no CLIFF; BAD: d, u, w");
        due("no CLIFF", Answers.noCliff().stops(0, 0, 0, 0), NONE);
        due("no CLIFF ahead of BAD", Answers.noCliff().stops(0, 7, -1, 100), NONE);
        CliffCars x = Answers.on("part 1;head 1");
        for (int step : new int[] {FAR_BELOW, -1, 12, FAR}) {
            due("STEP " + step, x.stops(step, 0, 0, 0), NONE);
            due("STEP " + step + " ahead of BAD", x.stops(step, 7, 7, 100), NONE);
        }
        for (int n : new int[] {FAR_BELOW, -1, 7, FAR}) {
            due("d " + n, x.stops(0, n, 0, 0), BAD);
            due("u " + n, x.stops(0, 0, n, 0), BAD);
        }
        for (int w : new int[] {FAR_BELOW, -1, 100, FAR}) {
            due("w " + w, x.stops(0, 0, 0, w), BAD);
        }
        due("the last of all", x.stops(11, 6, 6, 99), NOT_ANY);
        due("the first of all", x.stops(0, 0, 0, 0), 0);
        due("d of 6", x.stops(0, 6, 0, 0), NOT_ANY);
        due("u of 6", x.stops(0, 0, 6, 6), 0);
        due("w beyond the tank", x.stops(0, 0, 6, 99), NOT_ANY);
    }

    /** One PART of 1: the LEAST is one more than what the DRAG is, up to a tank. */
    private static CliffCars byDrag(int drag, int tank) {
        return Answers.on("part 1;head 1;tank " + tank + ";drag " + drag + " s<12");
    }

    private static void leastAndTank() {
        Answers.sentence("LEAST water: the least w (0 .. tank) with which it GOES; none: -5");
        due("PULL 0 with none", byDrag(0, 0).least(0, 0, 0), NOT_ANY);
        due("PULL 1 with none", byDrag(0, 0).least(0, 1, 0), 0);
        due("PULL 1 less 1 with none", byDrag(1, 0).least(0, 1, 0), NOT_ANY);
        due("one pint in a tank of 1", byDrag(0, 1).least(0, 0, 0), 1);
        due("two pints in a tank of 1", byDrag(1, 1).least(0, 0, 0), NOT_ANY);
        due("20 in a tank of 20", byDrag(19, 20).least(0, 0, 0), 20);
        due("21 in a tank of 20", byDrag(20, 20).least(0, 0, 0), NOT_ANY);
        due("60 in a tank of 60", byDrag(59, 60).least(0, 0, 0), 60);
        due("61 in a tank of 60", byDrag(60, 60).least(0, 0, 0), NOT_ANY);
        due("60 in a tank of 999", byDrag(59, 999).least(0, 0, 0), 60);
        due("61 in a tank of 999", byDrag(60, 999).least(0, 0, 0), NOT_ANY);
        CliffCars x = Answers.on("part 1;head 1;drag 19 s=0;drag 20 s=1");
        due("20 in a tank without", x.least(0, 0, 0), 20);
        due("21 in a tank without", x.least(1, 0, 0), NOT_ANY);
        x = Answers.on("part 2;head 1;tank 9");
        due("-2 to 0 and 2", x.least(0, 0, 1), 2);
        x = Answers.on("part 2;head 1;tank 9;drag 1 s<12");
        due("-3 to -1 and 1", x.least(0, 0, 1), 2);
        x = Answers.on("part 3;head 1;tank 9;drag 2 s<12");
        due("-2 to 1", x.least(0, 0, 0), 1);
        x = Answers.on("part 3;head 1;tank 9;drag 3 s<12");
        due("-3 to 0 and 3", x.least(0, 0, 0), 2);
    }

    private static void leastAndBrake() {
        Answers.sentence("LEAST: above 0 and no more than brake");
        CliffCars x = Answers.on("part 2;head 1;brake 1;drag 1 s=1;drag 2 s=2;drag 3 s=3");
        due("0, 2: none is 1", x.least(0, 0, 0), NOT_ANY);
        due("-1, 1", x.least(1, 0, 0), 1);
        due("-2, 0, 2", x.least(2, 0, 0), NOT_ANY);
        due("-3, -1, 1", x.least(3, 0, 0), 2);
        x = Answers.on("part 1;head 1;brake 3");
        due("just brake with none", x.least(0, 3, 0), 0);
        due("more than brake with none", x.least(0, 4, 0), NOT_ANY);
        due("from 0 on", x.least(0, 2, 2), 1);
        x = Answers.on("part 999;head 1;tank 60");
        due("999", x.least(0, 0, 0), 1);
        due("0 with six down, six up", x.least(0, 6, 6), 1);
        due("5 more up", x.least(0, 1, 6), 6);
        x = Answers.on("part 999;head 1;brake 998");
        due("999 of 998", x.least(0, 0, 0), NOT_ANY);
    }

    private static void leastOfHeads() {
        Answers.sentence("d heads down, u heads up: 0 .. 6 each");
        CliffCars x = Answers.on("part 1;head 7;tank 60");
        for (int d = 0; d <= 6; d++) {
            for (int u = 0; u <= 6; u++) {
                due(d + " down, " + u + " up", x.least(5, d, u), d > u ? 0 : 7 * (u - d) + 1);
            }
        }
    }

    private static void leastOfParts() {
        Answers.sentence("LEAST: at all PARTS");
        CliffCars x = Answers.on("part 1;part 1;part 1;part 1;part 1;rope 2;head 1;brake 17");
        // PULLS of w less 8, less 4, w, w and 4, w and 8: from 9 pints on, up to 9 pints
        due("9 alone goes", x.least(0, 0, 0), 9);
        due("one up: 10 alone", x.least(0, 0, 1), 10);
        due("six down: 3", x.least(0, 6, 0), 3);
        for (int w = 0; w <= 20; w++) {
            due(w + " pints", x.stops(0, 0, 0, w), w < 9 ? 0 : w == 9 ? NOT_ANY : firstTooFast(w));
        }
        x = Answers.on("part 1;part 1;part 1;part 1;part 1;rope 2;head 1;brake 16");
        due("none goes", x.least(0, 0, 0), NOT_ANY);
        x = Answers.on("part 10;part 1;head 1;brake 29;drag 2 s=0;drag 1 s=1");
        due("1 wants 3 pints, 10 bears 3", x.least(0, 0, 0), 3);
        due("1 wants 2 pints", x.least(1, 0, 0), 2);
        x = Answers.on("part 10;part 1;head 1;brake 27;drag 2 s=0");
        due("1 wants 3 pints, 10 bears 2", x.least(0, 0, 0), NOT_ANY);
        x = Answers.on("part 1;part 10;head 1;brake 27;drag 2 s=0");
        due("the same the other way", x.least(0, 0, 0), NOT_ANY);
        x = Answers.on("part 0;part 1;rope 4");
        due("a PART of 0 that stands", x.least(0, 1, 0), NOT_ANY);
        x = Answers.on("part 5;part 0;rope 4;brake 4");
        due("a PART of 0 at just brake", x.least(0, 0, 0), 1);
        x = Answers.on("part 5;part 0;rope 4;brake 3");
        due("a PART of 0 beyond brake", x.least(0, 0, 0), NOT_ANY);
        x = Answers.on("part 5;part 0;rope 1;drag 1 s=1");
        due("a PART of 0 at 1", x.least(0, 0, 0), 1);
        due("a PART of 0 at 0", x.least(1, 0, 0), NOT_ANY);
    }

    /** The first of five PARTS, with ropes of 2, at which w and more is above 17. */
    private static int firstTooFast(int w) {
        for (int k = 0; k < 5; k++) {
            if (w + 4 * k - 8 > 17) {
                return 100 + k;
            }
        }
        return NOT_ANY;
    }

    private static void leastInSteps() {
        Answers.sentence("LEAST water in a STEP: less DRAG; WET or not");
        CliffCars x = Answers.on("part 1;head 1;drag 1 s=0;drag 3 s=11;drag 7 w=1&s=0");
        due("in STEP 0", x.least(0, 0, 0), 2);
        due("in STEP 1", x.least(1, 0, 0), 1);
        due("in STEP 11", x.least(11, 0, 0), 4);
        x.wet(true);
        due("WET in STEP 0", x.least(0, 0, 0), 9);
        due("WET in STEP 1", x.least(1, 0, 0), 1);
        due("WET in STEP 11", x.least(11, 0, 0), 4);
        x.wet(false);
        due("not WET in STEP 0", x.least(0, 0, 0), 2);
    }

    private static void leastOfNone() {
        Answers.sentence("least: NONE: step, no CLIFF; BAD: d, u");
        due("no CLIFF", Answers.noCliff().least(0, 0, 0), NONE);
        due("no CLIFF ahead of BAD", Answers.noCliff().least(0, 7, -1), NONE);
        CliffCars x = Answers.on("part 1;head 1");
        for (int step : new int[] {FAR_BELOW, -1, 12, FAR}) {
            due("STEP " + step, x.least(step, 0, 0), NONE);
            due("STEP " + step + " ahead of BAD", x.least(step, -1, 7), NONE);
        }
        for (int n : new int[] {FAR_BELOW, -1, 7, FAR}) {
            due("d " + n, x.least(0, n, 0), BAD);
            due("u " + n, x.least(0, 0, n), BAD);
        }
        due("the last of all", x.least(11, 6, 6), 1);
        due("the first of all", x.least(0, 0, 0), 1);
    }

    /** One PART of such a PULL by one head down, and no water. */
    private static CliffCars head(int pull, int brake) {
        return Answers.on("part 1;tank 0;head " + pull + ";brake " + brake);
    }

    private static void jumpsUpTo99() {
        Answers.sentence("JUMP: of drag more (1 .. 99 more): the least with which the LEAST water is another one");
        CliffCars x = Answers.on("part 1;head 1");
        due("PULL 1 by one: from none to a pint", x.jump(0, 1, 0), 1);
        due("PULL 6 by six", x.jump(0, 6, 0), 6);
        due("from 1 pint to 2", x.jump(0, 0, 0), 1);
        x = Answers.on("part 98;head 1");
        due("98 less 98", x.jump(0, 1, 0), 98);
        x = Answers.on("part 99;head 1");
        due("99 less 99", x.jump(0, 1, 0), 99);
        x = Answers.on("part 100;head 1");
        due("100 less 100 would be one drag too far", x.jump(0, 1, 0), 0);
        x = Answers.on("part 101;head 1");
        due("101 less 99", x.jump(0, 1, 0), 0);
        x = Answers.on("part 50;head 1");
        due("one pint's 50", x.jump(0, 0, 0), 50);
        due("asked again", x.jump(0, 0, 0), 50);
        due("LEAST is as it was", x.least(0, 0, 0), 1);
        due("DRAG is as it was", x.told(0, 0), 0);
    }

    private static void jumpsToNone() {
        Answers.sentence("JUMP: or there is none");
        due("98 less 98", head(98, 999).jump(0, 1, 0), 98);
        due("99 less 99", head(99, 999).jump(0, 1, 0), 99);
        due("100 less 99 still goes", head(100, 999).jump(0, 1, 0), 0);
        due("1 less 1", head(1, 999).jump(0, 1, 0), 1);
        CliffCars x = Answers.on("part 1;head 1;tank 3");
        due("the tank is full already", x.jump(0, 0, 2), 1);
        x = Answers.on("part 9;head 1;tank 3");
        due("27 less 18 in the tank less 9", x.jump(0, 0, 2), 9);
        x = Answers.on("part 2;head 1;tank 9;brake 2");
        due("from 1 pint's 2: less 1 is 1, less 2 is 0, then 2 pints' 2", x.jump(0, 0, 0), 2);
        x = Answers.on("part 2;head 1;tank 9;brake 1;drag 1 s<12");
        due("from 1 pint's 1 to none, as 2 pints' 2 is too fast", x.jump(0, 0, 0), 1);
    }

    private static void jumpsFromNone() {
        Answers.sentence("JUMP: 0: none such");
        CliffCars x = Answers.on("part 1;head 9;tank 3");
        due("none at first, none ever", x.jump(0, 0, 1), 0);
        due("none at first, none ever", x.jump(0, 0, 6), 0);
        due("TOO FAST at first by 1", head(11, 10).jump(0, 1, 0), 1);
        due("TOO FAST at first by 99", head(109, 10).jump(0, 1, 0), 99);
        due("TOO FAST at first by 100", head(110, 10).jump(0, 1, 0), 0);
        due("brake 0: none ever", head(50, 0).jump(0, 1, 0), 0);
        x = Answers.on("part 0");
        due("a PART of 0 alone: none ever", x.jump(0, 6, 0), 0);
    }

    private static void jumpsInSteps() {
        Answers.sentence("JUMP: in a STEP");
        CliffCars x = Answers.on("part 50;head 1;drag 10 s=0;drag 20 s=11;drag 30 w=1");
        due("in STEP 0", x.jump(0, 0, 0), 40);
        due("in STEP 1", x.jump(1, 0, 0), 50);
        due("in STEP 11", x.jump(11, 0, 0), 30);
        x.wet(true);
        due("WET in STEP 0", x.jump(0, 0, 0), 10);
        due("WET in STEP 1", x.jump(1, 0, 0), 20);
        due("WET in STEP 11: 50 and 50 are two pints' 100 already", x.jump(11, 0, 0), 50);
    }

    private static void jumpOfNone() {
        Answers.sentence("jump: NONE: step, no CLIFF; BAD: d, u");
        due("no CLIFF", Answers.noCliff().jump(0, 0, 0), NONE);
        due("no CLIFF ahead of BAD", Answers.noCliff().jump(0, 7, -1), NONE);
        CliffCars x = Answers.on("part 1;head 1");
        for (int step : new int[] {FAR_BELOW, -1, 12, FAR}) {
            due("STEP " + step, x.jump(step, 0, 0), NONE);
            due("STEP " + step + " ahead of BAD", x.jump(step, -1, 7), NONE);
        }
        for (int n : new int[] {FAR_BELOW, -1, 7, FAR}) {
            due("d " + n, x.jump(0, n, 0), BAD);
            due("u " + n, x.jump(0, 0, n), BAD);
        }
        due("the last of all", x.jump(11, 6, 6), 1);
        due("the first of all", x.jump(0, 0, 0), 1);
    }
}
