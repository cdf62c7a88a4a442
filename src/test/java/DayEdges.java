/** The edges of a DAY and of the KINDS of RULES ("Terms" 2), and of promises 11 to 16. */
public final class DayEdges {
    private static final int NONE = Answers.NONE, BAD = Answers.BAD, STATE = Answers.STATE, FULL = Answers.FULL;
    private static final int NOT_ANY = Answers.NOT_ANY;
    private static final int FAR = Answers.FAR, FAR_BELOW = Answers.FAR_BELOW;

    private static final int UP = 0, DOWN = 1, WAITED = 2, LOST = 3, LEFT = 4, TRIPS = 5, STEP = 10;
    private static final int ALWAYS = 0, FULL_ONE = 1, BELL = 2, THRIFT = 3, BEST = 4, SPARE = 5, TOLD = 6;

    public static void main(String[] args) {
        comings();
        comingsInEachStep();
        weather();
        ponds();
        springs();
        springAheadOfTrip();
        lostHeads();
        lostAheadOfTrip();
        seats();
        somebodyGoes();
        pondHasIt();
        leastThere();
        pintsOfATrip();
        waitingBehind();
        rulesAndKinds();
        vOfRules();
        rowsOfTold();
        always();
        full();
        bells();
        thrift();
        bestOfTheSame();
        bestByOne();
        spares();
        spareOfNone();
        told();
        bestByWhatThePondHas();
        bestOneByOne();
        greatPonds();
        whatsOfDays();
        Answers.end();
    }

    private static void due(String what, long got, long want) {
        Answers.due(what, got, want);
    }

    /** LEAST is twice the heads more up, and 1; none for more down than up. */
    private static CliffCars plain(String more) {
        return Answers.on("part 1;head 2;seats 2" + more);
    }

    /** The pints of each STEP's TRIP, as many STEPS as are told; the others have none. */
    private static void trips(CliffCars x, int rule, int... pints) {
        for (int k = 0; k < 12; k++) {
            due("TRIP of RULE " + rule + " in " + k, x.day(rule, STEP + k), k < pints.length ? pints[k] : NOT_ANY);
        }
    }

    private static void facts(CliffCars x, int rule, int... want) {
        for (int k = 0; k < want.length; k++) {
            due("day(" + rule + ", " + k + ")", x.day(rule, k), want[k]);
        }
    }

    private static void comings() {
        Answers.sentence("COMINGS (0 .. 6; 0 at first): NONE: step, side; BAD: n; how many did");
        CliffCars x = new CliffCars();
        for (int step : new int[] {FAR_BELOW, -1, 12, FAR}) {
            due("STEP " + step, x.come(step, 0, 1), NONE);
            due("STEP " + step + " ahead of BAD", x.come(step, 1, 7), NONE);
        }
        for (int side : new int[] {FAR_BELOW, -1, 2, FAR}) {
            due("side " + side, x.come(0, side, 1), NONE);
            due("side " + side + " ahead of BAD", x.come(11, side, -1), NONE);
        }
        for (int side = 0; side < 2; side++) {
            for (int step : new int[] {0, 11}) {
                due("0 at first", x.come(step, side, 6), 0);
                for (int n : new int[] {FAR_BELOW, -1, 7, FAR}) {
                    due("n " + n, x.come(step, side, n), BAD);
                }
                due("6 came", x.come(step, side, 1), 6);
                due("1 came", x.come(step, side, 0), 1);
                due("none came", x.come(step, side, 0), 0);
            }
        }
        x = new CliffCars();
        for (int k = 0; k < 24; k++) {
            due("at first", x.come(k / 2, k % 2, k % 7), 0);
        }
        for (int k = 0; k < 24; k++) {
            due("each by itself", x.come(k / 2, k % 2, 0), k % 7);
        }
    }

    private static void comingsInEachStep() {
        Answers.sentence("heads that come ABOVE, BELOW at the beginning of each STEP");
        for (int k = 0; k < 12; k++) {
            CliffCars x = plain(";pond 40");
            x.pond(40);
            x.rule(ALWAYS, 0);
            int none = Answers.told(x);
            x.come(k, 1, 2);
            facts(x, 0, 2, 0, 0, 0, 35, 1);
            due("its TRIP in " + k, x.day(0, STEP + k), 5);
            facts(x, none, 0, 0, 2 * (12 - k), 0, 40, 0);
            x.come(k, 1, 0);
            x.come(k, 0, 1);
            facts(x, 0, 0, 1, 0, 0, 40, 1);
            due("its TRIP in " + k, x.day(0, STEP + k), 0);
            facts(x, none, 0, 0, 12 - k, 0, 40, 0);
        }
    }

    private static void weather() {
        Answers.sentence("WET or not (not at first): whether it was (1, 0)");
        CliffCars x = new CliffCars();
        due("at first", x.wet(false), 0);
        due("still not", x.wet(true), 0);
        due("it is", x.wet(true), 1);
        due("it still is", x.wet(false), 1);
        due("no more", x.wet(false), 0);
        x = plain(";drag 1 w=1;spring 9 w=1");
        x.rule(ALWAYS, 0);
        x.come(0, 1, 1);
        facts(x, 0, 0, 0, 12, 0, 0, 0);
        x.wet(true);
        trips(x, 0, 4);
        due("LEFT", x.day(0, LEFT), 20);
        x.wet(false);
        facts(x, 0, 0, 0, 12, 0, 0, 0);
    }

    private static void ponds() {
        Answers.sentence("POND at the beginning: BAD: n (0 .. THE CLIFF's pond; without one 0 alone): what it was");
        CliffCars x = new CliffCars();
        for (int n : new int[] {FAR_BELOW, -1, 1, 20, FAR}) {
            due("without a CLIFF " + n, x.pond(n), BAD);
        }
        due("without a CLIFF 0", x.pond(0), 0);
        int[] mosts = {0, 1, 20, 39, 40, 40, 40};
        String[] texts = {"pond 0", "pond 1", "part 1", "pond 39", "pond 40", "pond 41", "pond 999"};
        for (int k = 0; k < mosts.length; k++) {
            x = Answers.on(texts[k]);
            due("0 at first of " + texts[k], x.pond(mosts[k]), 0);
            for (int n : new int[] {FAR_BELOW, -1, mosts[k] + 1, FAR}) {
                due(n + " of " + texts[k], x.pond(n), BAD);
            }
            due("it is still the most of " + texts[k], x.pond(0), mosts[k]);
            due("it was 0 of " + texts[k], x.pond(0), 0);
            x.rule(ALWAYS, 0);
            x.pond(mosts[k]);
            due("LEFT of " + texts[k], x.day(0, LEFT), mosts[k]);
        }
    }

    private static void left(String spring, int pond, int want) {
        CliffCars x = Answers.on("pond 9;" + spring);
        x.rule(ALWAYS, 0);
        x.pond(pond);
        due("LEFT of " + pond + " by " + spring, x.day(0, LEFT), want);
    }

    private static void springs() {
        Answers.sentence("the SPRING comes to the POND (what is beyond it is lost)");
        left("spring 8 s=0", 0, 8);
        left("spring 9 s=0", 0, 9);
        left("spring 10 s=0", 0, 9);
        left("spring 999 s=0", 0, 9);
        left("spring 4 s=11", 4, 8);
        left("spring 4 s=11", 5, 9);
        left("spring 4 s=11", 6, 9);
        left("spring 4 s=11", 9, 9);
        left("spring 0 s=11", 9, 9);
        left("spring 1 s<8", 0, 8);
        left("spring 1 s<9", 0, 9);
        left("spring 1 s<10", 0, 9);
        left("spring 1 s=12", 0, 0);
        CliffCars x = Answers.on("pond 0;spring 9 s<12");
        x.rule(ALWAYS, 0);
        due("a pond of 0", x.day(0, LEFT), 0);
        due("what comes is no head", x.day(0, LOST), 0);
    }

    private static void springAheadOfTrip() {
        Answers.sentence("In each STEP: the SPRING comes to the POND; then there may be a TRIP");
        CliffCars x = plain(";spring 3 s=4;pond 5");
        x.rule(ALWAYS, 0);
        x.come(0, 1, 1);
        trips(x, 0, NOT_ANY, NOT_ANY, NOT_ANY, NOT_ANY, 3);
        due("WAITED", x.day(0, WAITED), 4);
        x.pond(2);
        trips(x, 0, NOT_ANY, NOT_ANY, NOT_ANY, NOT_ANY, 3);
        due("5 less 3", x.day(0, LEFT), 2);
        x.come(0, 1, 0);
        x.come(4, 1, 1);
        x.pond(5);
        trips(x, 0, NOT_ANY, NOT_ANY, NOT_ANY, NOT_ANY, 3);
        due("what the TRIP takes was full ahead of it", x.day(0, LEFT), 2);
        x = plain(";spring 2 s=4;pond 5");
        x.rule(ALWAYS, 0);
        x.come(0, 1, 1);
        trips(x, 0);
        x = plain(";spring 3 s=11");
        x.rule(ALWAYS, 0);
        x.come(11, 1, 1);
        due("in the last STEP too", x.day(0, STEP + 11), 3);
    }

    /** LOST, and who WAITED, of heads of both sides with no TRIPS. */
    private static void lost(int side, int first, int second, int third, int want, int waited) {
        CliffCars x = plain("");
        int none = Answers.told(x);
        x.come(0, side, first);
        x.come(1, side, second);
        x.come(11, side, third);
        due("LOST of " + first + ", " + second + ", " + third + " at side " + side, x.day(none, LOST), want);
        due("WAITED of " + first + ", " + second + ", " + third + " at side " + side, x.day(none, WAITED), waited);
    }

    private static void lostHeads() {
        Answers.sentence("heads come (those beyond 8 on each side go away: LOST)");
        for (int side = 0; side < 2; side++) {
            lost(side, 6, 1, 0, 0, 6 + 7 * 11);
            lost(side, 6, 2, 0, 0, 6 + 8 * 11);
            lost(side, 6, 3, 0, 1, 6 + 8 * 11);
            lost(side, 6, 6, 0, 4, 6 + 8 * 11);
            lost(side, 6, 6, 6, 10, 6 + 8 * 11);
            lost(side, 6, 2, 1, 1, 6 + 8 * 11);
            lost(side, 6, 1, 1, 0, 6 + 7 * 10 + 8);
            lost(side, 6, 1, 2, 1, 6 + 7 * 10 + 8);
        }
        CliffCars x = plain("");
        int none = Answers.told(x);
        x.come(0, 0, 6);
        x.come(0, 1, 6);
        due("six on each side are not twelve", x.day(none, LOST), 0);
        x.come(1, 0, 3);
        due("nine ABOVE", x.day(none, LOST), 1);
        x.come(1, 1, 4);
        due("nine ABOVE, ten BELOW", x.day(none, LOST), 3);
        for (int k = 0; k < 12; k++) {
            x.come(k, 0, 6);
            x.come(k, 1, 6);
        }
        facts(x, none, 0, 0, 12 + 16 * 11, 2 * (12 * 6 - 8), 0, 0);
    }

    private static void lostAheadOfTrip() {
        Answers.sentence("heads come (those beyond 8 go away); then there may be a TRIP");
        CliffCars x = plain(";pond 40");
        x.pond(40);
        int rule = Answers.told(x, 0, 0, 1);
        x.come(0, 1, 6);
        x.come(1, 1, 2);
        x.come(2, 1, 1);
        facts(x, rule, 2, 0, 6 + 8 + 6 * 10, 1, 35, 1);
        x.come(2, 1, 0);
        x.come(3, 1, 2);
        facts(x, rule, 2, 0, 6 + 8 + 6 + 8 * 9, 0, 35, 1);
        x.come(3, 1, 3);
        facts(x, rule, 2, 0, 6 + 8 + 6 + 8 * 9, 1, 35, 1);
        x.come(3, 1, 0);
        x.come(2, 1, 1);
        x.come(2, 0, 6);
        x.come(1, 0, 2);
        // as many up as down: a pint
        facts(x, rule, 2, 2, 6 + 10 + 12 * 10, 1, 39, 1);
    }

    private static void seats() {
        Answers.sentence("as many heads as wait go down from ABOVE, up from BELOW, as there are seats each");
        for (int seats = 0; seats <= 7; seats++) {
            for (int n = 0; n <= 8; n++) {
                CliffCars x = Answers.on("part 1;head 1;tank 60;pond 40;seats " + seats);
                x.pond(40);
                int rule = Answers.told(x, 0, 1);
                x.come(0, 1, Math.min(n, 6));
                x.come(1, 1, Math.max(n - 6, 0));
                int go = Math.min(n, Math.min(seats, 6));
                due("UP of " + n + " with seats " + seats, x.day(rule, UP), go);
                due("pints of " + n + " with seats " + seats, x.day(rule, STEP + 1), go == 0 ? NOT_ANY : go + 1);
                x.come(0, 1, 0);
                x.come(1, 1, 0);
                x.come(0, 0, Math.min(n, 6));
                x.come(1, 0, Math.max(n - 6, 0));
                due("DOWN of " + n + " with seats " + seats, x.day(rule, DOWN), go);
                due("pints of " + n + " down with seats " + seats, x.day(rule, STEP + 1), go == 0 ? NOT_ANY : 0);
            }
        }
        CliffCars x = plain(";pond 40");
        x.pond(40);
        int rule = Answers.told(x, 1);
        x.come(0, 0, 1);
        x.come(0, 1, 3);
        facts(x, rule, 2, 1, 12, 0, 37, 1);
        x.come(0, 0, 3);
        x.come(0, 1, 1);
        facts(x, rule, 1, 2, 12, 0, 40, 1);
    }

    private static void somebodyGoes() {
        Answers.sentence("it CAN be, if somebody goes");
        CliffCars x = Answers.on("part 1;rope 0;head 2");
        x.pond(20);
        x.rule(ALWAYS, 0);
        // empty cars would go with a pint
        due("LEAST for nobody", x.least(0, 0, 0), 1);
        facts(x, 0, 0, 0, 0, 0, 20, 0);
        trips(x, 0);
        x.come(3, 0, 1);
        facts(x, 0, 0, 1, 0, 0, 20, 1);
        x.come(3, 0, 0);
        x.come(3, 1, 1);
        facts(x, 0, 1, 0, 0, 0, 17, 1);
        x = Answers.on("part 1;head 2;seats 0");
        x.pond(20);
        x.rule(ALWAYS, 0);
        x.come(3, 0, 1);
        x.come(3, 1, 1);
        facts(x, 0, 0, 0, 18, 0, 20, 0);
    }

    private static void pondHasIt() {
        Answers.sentence("it CAN be, if the POND has it");
        CliffCars x = plain("");
        x.rule(ALWAYS, 0);
        x.come(0, 1, 2);
        for (int n = 0; n <= 7; n++) {
            x.pond(n);
            facts(x, 0, n < 5 ? 0 : 2, 0, n < 5 ? 24 : 0, 0, n < 5 ? n : n - 5, n < 5 ? 0 : 1);
        }
        x.come(0, 1, 0);
        x.come(0, 0, 2);
        x.pond(0);
        facts(x, 0, 0, 2, 0, 0, 0, 1);
        Answers.sentence("a TRIP takes water: the next one CAN be with what is left");
        x.come(0, 0, 0);
        x.come(0, 1, 4);
        x.pond(9);
        trips(x, 0, 5);
        x.pond(10);
        trips(x, 0, 5, 5);
    }

    private static void leastThere() {
        Answers.sentence("it CAN be, if there is such a LEAST");
        CliffCars x = plain(";tank 4");
        x.pond(20);
        x.rule(ALWAYS, 0);
        x.come(0, 1, 2);
        trips(x, 0);
        x.come(5, 0, 1);
        // one down, two up
        trips(x, 0, NOT_ANY, NOT_ANY, NOT_ANY, NOT_ANY, NOT_ANY, 3);
        x = plain(";tank 5");
        x.pond(20);
        x.rule(ALWAYS, 0);
        x.come(0, 1, 2);
        trips(x, 0, 5);
        x = plain(";brake 3");
        x.pond(20);
        x.rule(ALWAYS, 0);
        x.come(0, 0, 2);
        trips(x, 0);
        x.come(6, 1, 1);
        trips(x, 0, NOT_ANY, NOT_ANY, NOT_ANY, NOT_ANY, NOT_ANY, NOT_ANY, 0);
        x = plain(";brake 4");
        x.pond(20);
        x.rule(ALWAYS, 0);
        x.come(0, 0, 2);
        trips(x, 0, 0);
        x = plain(";brake 0");
        x.pond(20);
        x.rule(ALWAYS, 0);
        x.come(0, 0, 2);
        x.come(0, 1, 1);
        trips(x, 0);
        x = plain(";drag 16 s=0;drag 15 s=1");
        x.pond(20);
        x.rule(ALWAYS, 0);
        x.come(0, 1, 2);
        trips(x, 0, NOT_ANY, 20);
    }

    private static void pintsOfATrip() {
        Answers.sentence("10 and k: pints of the TRIP in STEP k (-5: there is none)");
        CliffCars x = plain(";drag 1 s=1;drag 11 s=11");
        x.pond(20);
        x.rule(ALWAYS, 0);
        x.come(0, 0, 1);
        x.come(1, 1, 1);
        x.come(11, 1, 1);
        trips(x, 0, 0, 4, NOT_ANY, NOT_ANY, NOT_ANY, NOT_ANY, NOT_ANY, NOT_ANY, NOT_ANY, NOT_ANY, NOT_ANY, 14);
        facts(x, 0, 2, 1, 0, 0, 2, 3);
    }

    private static void waitingBehind() {
        Answers.sentence("Behind the STEP those that wait, ABOVE and BELOW, are WAITING for one STEP more each");
        CliffCars x = plain("");
        int first = Answers.told(x, 1);
        x.come(0, 0, 1);
        due("gone in the STEP in which it came", x.day(first, WAITED), 0);
        int second = Answers.told(x, 0, 1);
        due("gone a STEP later", x.day(second, WAITED), 1);
        int never = Answers.told(x);
        due("never gone", x.day(never, WAITED), 12);
        x.come(0, 0, 0);
        x.come(11, 0, 1);
        due("in the last STEP", x.day(never, WAITED), 1);
        x.come(11, 1, 4);
        due("on both sides in the last STEP", x.day(never, WAITED), 5);
        x.come(11, 0, 0);
        x.come(11, 1, 0);
        x.come(0, 0, 3);
        due("two of three gone at once", x.day(first, WAITED), 12);
        x.come(1, 0, 6);
        x.come(2, 0, 6);
        due("those LOST do not wait", x.day(never, WAITED), 3 + 8 * 11);
    }

    private static void rulesAndKinds() {
        Answers.sentence("RULES, numbered 0 .. 11, as they come: NONE: kind; BAD: v; FULL");
        CliffCars x = new CliffCars();
        for (int kind : new int[] {FAR_BELOW, -1, 7, FAR}) {
            due("kind " + kind, x.rule(kind, 0), NONE);
            due("kind " + kind + " ahead of BAD", x.rule(kind, 21), NONE);
        }
        for (int kind = 0; kind <= 6; kind++) {
            due("v of -1", x.rule(kind, -1), BAD);
            due("v of 21", x.rule(kind, 21), BAD);
        }
        due("none came", x.count(1), 0);
        for (int k = 0; k < 12; k++) {
            due("RULE " + k, x.rule(k % 7, k % 2 == 0 ? 0 : 20), k);
            due("how many", x.count(1), k + 1);
        }
        for (int kind = 0; kind <= 6; kind++) {
            due("a thirteenth", x.rule(kind, 0), FULL);
        }
        due("BAD ahead of FULL", x.rule(0, 21), BAD);
        due("BAD ahead of FULL", x.rule(6, -1), BAD);
        due("NONE ahead of FULL", x.rule(7, 0), NONE);
        due("NONE ahead of FULL", x.rule(-1, 21), NONE);
        due("how many", x.count(1), 12);
        for (int k = 0; k < 12; k++) {
            due("the KIND of " + k, x.taken(k, 0), k % 7);
        }
    }

    private static void vOfRules() {
        Answers.sentence("a number v (0 .. 20)");
        CliffCars x = new CliffCars();
        for (int v : new int[] {FAR_BELOW, -20, -1, 21, 22, FAR}) {
            due("v " + v, x.rule(0, v), BAD);
        }
        int[] vs = {0, 1, 19, 20};
        for (int k = 0; k < vs.length; k++) {
            due("v " + vs[k], x.rule(0, vs[k]), k);
            due("holds: x and i less v", x.act(k, 1, 100), 100 + k - vs[k]);
        }
    }

    private static void rowsOfTold() {
        Answers.sentence("A number (0, 1) comes to the ROW of a TOLD RULE: how many. NONE; BAD; STATE; FULL");
        CliffCars x = new CliffCars();
        due("no RULE", x.row(0, 0), NONE);
        for (int kind = 0; kind < 6; kind++) {
            x.rule(kind, 0);
            due("a RULE of KIND " + kind, x.row(kind, 0), STATE);
            due("a RULE of KIND " + kind, x.row(kind, 1), STATE);
            due("BAD ahead of STATE", x.row(kind, 2), BAD);
            due("BAD ahead of STATE", x.row(kind, -1), BAD);
            due("NONE ahead of BAD", x.row(kind + 1, 2), NONE);
            due("NONE ahead of BAD", x.row(-1, -1), NONE);
        }
        x.rule(6, 0);
        x.rule(6, 0);
        for (int k = 1; k <= 12; k++) {
            for (int n : new int[] {FAR_BELOW, -1, 2, FAR}) {
                due("n " + n, x.row(6, n), BAD);
            }
            due("number " + k, x.row(6, k % 2), k);
        }
        due("a thirteenth", x.row(6, 0), FULL);
        due("a thirteenth", x.row(6, 1), FULL);
        due("BAD ahead of FULL", x.row(6, 2), BAD);
        due("the other one's first", x.row(7, 0), 1);
        due("no such RULE", x.row(8, 0), NONE);
        due("no such RULE", x.row(FAR, 0), NONE);
        due("no such RULE", x.row(FAR_BELOW, 0), NONE);
    }

    private static void always() {
        Answers.sentence("RULE: always");
        CliffCars x = plain("");
        x.rule(ALWAYS, 20);
        for (int k = 0; k < 12; k++) {
            x.come(k, 0, 1);
        }
        trips(x, 0, 0, 0, 0, 0, 0, 0, 0, 0, 0, 0, 0, 0);
        facts(x, 0, 0, 12, 0, 0, 0, 12);
    }

    private static void full() {
        Answers.sentence("FULL: if as many wait BELOW as there are seats, or it is the last STEP");
        for (int seats = 1; seats <= 6; seats++) {
            CliffCars x = Answers.on("part 1;head 1;tank 60;pond 40;seats " + seats);
            x.pond(40);
            x.rule(FULL_ONE, 0);
            x.come(2, 1, seats - 1);
            for (int k = 0; k < 11; k++) {
                due("one seat stays empty of " + seats + " in " + k, x.day(0, STEP + k), NOT_ANY);
            }
            due("but in the last STEP", x.day(0, STEP + 11), seats == 1 ? NOT_ANY : seats);
            x.come(4, 1, 1);
            due("all of " + seats, x.day(0, STEP + 4), seats + 1);
            due("none is left of " + seats, x.day(0, STEP + 11), NOT_ANY);
            x.come(4, 1, 2);
            due("one more than all of " + seats, x.day(0, STEP + 4), seats + 1);
            due("the one in the last STEP", x.day(0, STEP + 11), seats == 1 ? NOT_ANY : 2);
            due("or at once, with one seat", x.day(0, STEP + 5), seats == 1 ? 2 : NOT_ANY);
        }
        CliffCars x = plain("");
        x.rule(FULL_ONE, 20);
        x.come(0, 0, 6);
        // those ABOVE do not count
        trips(x, 0, NOT_ANY, NOT_ANY, NOT_ANY, NOT_ANY, NOT_ANY, NOT_ANY, NOT_ANY, NOT_ANY, NOT_ANY, NOT_ANY, NOT_ANY, 0);
        x.come(9, 1, 1);
        trips(x, 0, NOT_ANY, NOT_ANY, NOT_ANY, NOT_ANY, NOT_ANY, NOT_ANY, NOT_ANY, NOT_ANY, NOT_ANY, NOT_ANY, NOT_ANY, 0);
        x.come(9, 1, 2);
        x.pond(1);
        trips(x, 0, NOT_ANY, NOT_ANY, NOT_ANY, NOT_ANY, NOT_ANY, NOT_ANY, NOT_ANY, NOT_ANY, NOT_ANY, 1, NOT_ANY, 0);
    }

    private static void bells() {
        Answers.sentence("BELL: in STEPS that v and 1 divides");
        for (int v = 0; v <= 20; v++) {
            CliffCars x = plain("");
            for (int k = 0; k < 12; k++) {
                x.come(k, 0, 1);
            }
            x.rule(BELL, v);
            for (int k = 0; k < 12; k++) {
                due("BELL of " + v + " in " + k, x.day(0, STEP + k), k % (v + 1) == 0 ? 0 : NOT_ANY);
            }
        }
        int[][] steps = {{10, 0}, {11, 0}, {20, 0}, {5, 6}, {4, 10}, {10, 11}};
        for (int[] s : steps) {
            CliffCars x = plain("");
            x.rule(BELL, s[0]);
            x.come(s[1], 0, 1);
            due("BELL of " + s[0] + " in " + s[1], x.day(0, TRIPS), 1);
        }
        CliffCars x = plain("");
        x.rule(BELL, 11);
        x.come(11, 0, 1);
        due("the last STEP is none of BELL's", x.day(0, TRIPS), 0);
        x.rule(BELL, 10);
        due("but 11 divides 11", x.day(1, TRIPS), 1);
    }

    private static void thrift() {
        Answers.sentence("THRIFT: if the water is no more than v times the heads that go up, or it is the last STEP");
        for (int v = 0; v <= 5; v++) {
            CliffCars x = plain("");
            x.pond(20);
            x.rule(THRIFT, v);
            x.come(3, 1, 1);
            due("3 pints for one, v " + v, x.day(0, STEP + 3), v < 3 ? NOT_ANY : 3);
            due("in the last STEP, v " + v, x.day(0, STEP + 11), v < 3 ? 3 : NOT_ANY);
            due("not in the last but one, v " + v, x.day(0, STEP + 10), NOT_ANY);
        }
        CliffCars x = Answers.on("part 1;head 2;seats 2;tank 60;pond 40;drag 1 s=1;drag 2 s=2");
        x.pond(40);
        x.rule(THRIFT, 3);
        // 5, 6 and 7 pints for two
        for (int k = 0; k < 3; k++) {
            x.come(Math.max(k - 1, 0), 1, 0);
            x.come(k, 1, 2);
            due("DRAG " + k, x.day(0, STEP + k), k == 2 ? NOT_ANY : 5 + k);
        }
        due("a STEP later", x.day(0, STEP + 3), 5);
        x = plain("");
        x.pond(20);
        x.rule(THRIFT, 0);
        x.come(4, 0, 1);
        due("none for none is no more", x.day(0, STEP + 4), 0);
        x.come(4, 1, 1);
        due("1 for one is more than none", x.day(0, STEP + 4), NOT_ANY);
        x.come(4, 0, 2);
        due("none for one", x.day(0, STEP + 4), 0);
        x = plain(";drag 2 s<12");
        x.pond(20);
        x.rule(THRIFT, 20);
        x.come(4, 0, 1);
        trips(x, 0, NOT_ANY, NOT_ANY, NOT_ANY, NOT_ANY, NOT_ANY, NOT_ANY, NOT_ANY, NOT_ANY, NOT_ANY, NOT_ANY, NOT_ANY, 1);
        x = Answers.on("part 1;head 19;tank 60;pond 40");
        x.pond(40);
        x.rule(THRIFT, 20);
        x.come(4, 1, 1);
        due("20 for one", x.day(0, STEP + 4), 20);
        x.rule(THRIFT, 19);
        due("20 for one is more than 19", x.day(1, STEP + 4), NOT_ANY);
        due("in the last STEP", x.day(1, STEP + 11), 20);
    }

    private static void bestOfTheSame() {
        Answers.sentence("BEST: a TRIP is made if that is of more WORTH than none (the SAME: none)");
        CliffCars x = plain("");
        x.rule(BEST, 20);
        x.pond(3);
        for (int k = 0; k < 12; k++) {
            x.come(Math.max(k - 1, 0), 1, 0);
            x.come(k, 1, 1);
            facts(x, 0, 1, 0, 11 - k, 0, 0, 1);
            due("as late as may be", x.day(0, STEP + 11), 3);
        }
        x.pond(2);
        facts(x, 0, 0, 0, 1, 0, 2, 0);
        x.come(11, 1, 0);
        x.come(5, 0, 2);
        facts(x, 0, 0, 0, 14, 0, 2, 0);
        x = plain(";drag 1 s=11");
        x.rule(BEST, 0);
        x.pond(4);
        x.come(2, 1, 1);
        // in the last STEP it would be dearer by a pint
        facts(x, 0, 1, 0, 8, 0, 1, 1);
        due("in the last but one", x.day(0, STEP + 10), 3);
    }

    private static void bestByOne() {
        Answers.sentence("BEST: more WORTH than none by 1");
        CliffCars x = plain(";spring 1 s=11");
        x.rule(BEST, 0);
        x.pond(20);
        x.come(10, 1, 1);
        due("a TRIP makes room for the SPRING", x.waits(10, 20, 0, 0, 1), 1);
        facts(x, 0, 1, 0, 0, 0, 18, 1);
        x.pond(19);
        due("room was there", x.waits(10, 19, 0, 0, 1), 0);
        facts(x, 0, 1, 0, 1, 0, 17, 1);
        x = plain(";spring 1 s=11;drag 1 s=10");
        x.rule(BEST, 0);
        x.pond(20);
        x.come(10, 1, 1);
        due("room, but a pint more", x.waits(10, 20, 0, 0, 1), 0);
        facts(x, 0, 1, 0, 1, 0, 17, 1);
    }

    private static void spares() {
        Answers.sentence("SPARE: among days on which no TRIP leaves less than v in the POND (others can't be)");
        for (int v = 0; v <= 20; v++) {
            CliffCars x = Answers.on("part 1;head 2;seats 2;pond 40");
            x.rule(SPARE, v);
            x.come(0, 1, 1);
            x.pond(v + 3);
            facts(x, 0, 1, 0, 11, 0, v, 1);
            x.pond(v + 2);
            facts(x, 0, 0, 0, 12, 0, v + 2, 0);
            x.pond(40);
            facts(x, 0, 1, 0, 11, 0, 37, 1);
        }
        CliffCars x = plain(";spring 1 s=7");
        x.rule(SPARE, 4);
        x.come(0, 1, 1);
        x.pond(6);
        // what the SPRING brings counts in its own STEP
        facts(x, 0, 1, 0, 11, 0, 4, 1);
        x.pond(5);
        facts(x, 0, 0, 0, 12, 0, 6, 0);
        x = plain("");
        x.rule(SPARE, 2);
        x.rule(BEST, 0);
        x.come(0, 1, 2);
        x.come(0, 0, 1);
        x.come(6, 1, 1);
        x.pond(5);
        // together with the one ABOVE two cost 3, and 2 are left; the third has no water
        facts(x, 0, 2, 1, 6 * 3 + 5 * 4 + 1, 0, 2, 1);
    }

    private static void spareOfNone() {
        Answers.sentence("SPARE: likewise; with v 0 as BEST; no TRIP in a POND below v, though it takes no water");
        CliffCars x = plain("");
        x.rule(BEST, 7);
        x.rule(SPARE, 0);
        x.rule(SPARE, 1);
        x.come(0, 0, 2);
        x.come(0, 1, 1);
        facts(x, 0, 1, 2, 33, 0, 0, 1);
        facts(x, 1, 1, 2, 33, 0, 0, 1);
        facts(x, 2, 0, 0, 36, 0, 0, 0);
        x.pond(1);
        facts(x, 2, 1, 2, 33, 0, 1, 1);
        x = plain("");
        x.rule(SPARE, 0);
        x.come(0, 0, 2);
        facts(x, 0, 0, 0, 24, 0, 0, 0);
    }

    private static void told() {
        Answers.sentence("TOLD: by its ROW (0, 1; 12 at most, as they come; beyond it not)");
        CliffCars x = plain("");
        for (int k = 0; k < 12; k++) {
            x.come(k, 0, 1);
        }
        int rule = x.rule(TOLD, 20);
        trips(x, rule);
        for (int n = 1; n <= 12; n++) {
            x.row(rule, n % 3 == 0 ? 0 : 1);
            int[] want = new int[n];
            for (int k = 0; k < n; k++) {
                want[k] = k % 3 == 2 ? NOT_ANY : 0;
            }
            if (n == 1 || n == 2 || n == 6 || n == 11 || n == 12) {
                trips(x, rule, want);
            }
        }
        due("a thirteenth", x.row(rule, 1), FULL);
        due("the twelfth stays", x.day(rule, STEP + 11), NOT_ANY);
        int last = Answers.told(x, 0, 0, 0, 0, 0, 0, 0, 0, 0, 0, 0, 1);
        due("the twelfth leads", x.day(last, STEP + 11), 0);
        due("the eleventh does not", x.day(last, STEP + 10), NOT_ANY);
        due("a thirteenth", x.row(last, 0), FULL);
        due("the twelfth still leads", x.day(last, STEP + 11), 0);
        int eleven = Answers.told(x, 1, 1, 1, 1, 1, 1, 1, 1, 1, 1, 1);
        due("the eleventh leads", x.day(eleven, STEP + 10), 0);
        due("beyond it not", x.day(eleven, STEP + 11), NOT_ANY);
        int two = Answers.told(x, 1, 1);
        x.come(0, 0, 0);
        due("no TRIP that can't be", x.day(two, STEP), NOT_ANY);
        due("the next one is", x.day(two, STEP + 1), 0);
    }

    private static void bestByWhatThePondHas() {
        Answers.sentence("BEST: a later TRIP that CAN't be is worth nothing");
        CliffCars x = plain("");
        x.rule(BEST, 0);
        x.rule(SPARE, 0);
        x.rule(SPARE, 1);
        x.rule(SPARE, 2);
        x.come(0, 1, 1);
        x.come(1, 1, 1);
        // two take 5: with 4 the first must go alone, in STEP 0
        x.pond(4);
        for (int rule = 0; rule < 3; rule++) {
            facts(x, rule, 1, 0, 11, 0, 1, 1);
            trips(x, rule, 3);
        }
        facts(x, 3, 0, 0, 1 + 2 * 11, 0, 4, 0);
        x.pond(5);
        for (int rule = 0; rule < 2; rule++) {
            facts(x, rule, 2, 0, 1 + 2 * 10, 0, 0, 1);
            due("both in the last STEP", x.day(rule, STEP + 11), 5);
        }
        facts(x, 2, 1, 0, 11, 0, 2, 1);
        facts(x, 3, 1, 0, 11, 0, 2, 1);
        x.pond(6);
        facts(x, 2, 2, 0, 1 + 2 * 10, 0, 1, 1);
        facts(x, 3, 1, 0, 11, 0, 3, 1);
    }

    private static void bestOneByOne() {
        Answers.sentence("BEST: with one seat each STEP takes one; as late as may be");
        CliffCars x = Answers.on("part 1;head 0;seats 1");
        x.rule(BEST, 0);
        x.come(0, 1, 1);
        x.come(1, 1, 1);
        x.pond(20);
        int[] want = {NOT_ANY, NOT_ANY, NOT_ANY, NOT_ANY, NOT_ANY, NOT_ANY, NOT_ANY, NOT_ANY, NOT_ANY, NOT_ANY, 1, 1};
        trips(x, 0, want);
        facts(x, 0, 2, 0, 1 + 2 * 9 + 1, 0, 18, 2);
        x.come(2, 1, 1);
        want[9] = 1;
        trips(x, 0, want);
        facts(x, 0, 3, 0, 1 + 2 + 3 * 7 + 2 + 1, 0, 17, 3);
        x.pond(2);
        want[9] = NOT_ANY;
        trips(x, 0, want);
        facts(x, 0, 2, 0, 1 + 2 + 3 * 8 + 2 + 1, 0, 0, 2);
    }

    /** Two heads BELOW at first, one more in STEP 1; each needs the whole of the POND. */
    private static CliffCars wholePond(int head, int pond) {
        CliffCars x = Answers.on("part 1;head " + head + ";seats 1;tank 60;pond 40");
        x.pond(pond);
        x.rule(BEST, 0);
        x.come(0, 1, 2);
        x.come(1, 1, 1);
        return x;
    }

    private static void greatPonds() {
        Answers.sentence("BEST, with the POND at 40 and at 0: what is left of a DAY differs by the POND alone");
        CliffCars x = wholePond(39, 40);
        facts(x, 0, 1, 0, 2 + 3 * 10 + 2, 0, 0, 1);
        due("as late as may be", x.day(0, STEP + 11), 40);
        x = wholePond(38, 39);
        facts(x, 0, 1, 0, 2 + 3 * 10 + 2, 0, 0, 1);
        due("as late as may be", x.day(0, STEP + 11), 39);
        x = wholePond(38, 40);
        facts(x, 0, 1, 0, 2 + 3 * 10 + 2, 0, 1, 1);
        due("as late as may be", x.day(0, STEP + 11), 39);
        x = wholePond(37, 38);
        facts(x, 0, 1, 0, 2 + 3 * 10 + 2, 0, 0, 1);
        due("as late as may be", x.day(0, STEP + 11), 38);
    }

    private static void whatsOfDays() {
        Answers.sentence("day: NONE: rule, what, no CLIFF");
        CliffCars x = new CliffCars();
        due("no RULE, no CLIFF", x.day(0, 0), NONE);
        x.rule(ALWAYS, 0);
        for (int what : new int[] {0, 5, 10, 21, 22}) {
            due("no CLIFF", x.day(0, what), NONE);
        }
        Answers.read(x, "part 1;head 2;spring 3 s=11");
        x.come(11, 1, 1);
        int[] whats = {FAR_BELOW, -1, 0, 5, 6, 9, 10, 21, 22, FAR};
        int[] want = {NONE, NONE, 1, 1, NONE, NONE, NOT_ANY, 3, NONE, NONE};
        for (int k = 0; k < whats.length; k++) {
            due("what " + whats[k], x.day(0, whats[k]), want[k]);
        }
        for (int rule : new int[] {FAR_BELOW, -1, 1, 11, 12, FAR}) {
            due("RULE " + rule, x.day(rule, 0), NONE);
        }
        for (int k = 1; k < 12; k++) {
            x.rule(ALWAYS, 0);
        }
        due("the twelfth RULE", x.day(11, UP), 1);
        due("a thirteenth", x.day(12, UP), NONE);
    }
}
