/** The edges of JUDGED, TAPES, THE IMAGE and ACTS ("Terms" 3 and 4), and of promises 22 to 32; and 512 calls. */
public final class TapeEdges {
    private static final int NONE = Answers.NONE, BAD = Answers.BAD, STATE = Answers.STATE, NOT_ANY = Answers.NOT_ANY;
    private static final int NOTHING = Answers.NOTHING, CAST = Answers.CAST, PLACE = Answers.PLACE, SIZE = Answers.SIZE;
    private static final int FAR = Answers.FAR, FAR_BELOW = Answers.FAR_BELOW;
    private static final long NO = Answers.NO;

    private static final int BYTES = 0, SHORTS = 1, INTS = 2, LONGS = 3, BOOLEANS = 4;

    public static void main(String[] args) {
        constants();
        judgeOfNone();
        judgedRows();
        judgedPlaces();
        judgedPints();
        judgedHeads();
        judgedAsOnADay();
        judgedStandsOrTooFast();
        noImage();
        imageOfEach();
        whatStays();
        imageWithoutCliff();
        imagesAgain();
        actsThatWrap();
        actsOfNone();
        traces();
        takings();
        counts();
        tapes();
        lowestBits();
        itemsAndReads();
        shiftsOfNone();
        shiftsAtTheEnds();
        shiftsAsTheyWereBefore();
        fiveHundredAndTwelve();
        Answers.end();
    }

    private static void due(String what, long got, long want) {
        Answers.due(what, got, want);
    }

    private static void constants() {
        Answers.sentence("NONE (-1), BAD (-2), STATE (-3), FULL (-4); NO = Long.MIN_VALUE");
        due("NONE", CliffCars.NONE, -1);
        due("BAD", CliffCars.BAD, -2);
        due("STATE", CliffCars.STATE, -3);
        due("FULL", CliffCars.FULL, -4);
        due("NO", CliffCars.NO, Long.MIN_VALUE);
    }

    private static void same(CliffCars x, int tape, long... want) {
        for (int k = 0; k < want.length; k++) {
            due("read(" + tape + ", " + k + ")", x.read(tape, k), want[k]);
        }
        due("read(" + tape + ", " + want.length + ")", x.read(tape, want.length), NO);
    }

    private static CliffCars plain(String more) {
        return Answers.on("part 1;head 2;seats 2" + more);
    }

    private static void judgeOfNone() {
        Answers.sentence("judge: NONE: tape, no CLIFF; CAST: it is no row of ints");
        CliffCars x = new CliffCars();
        x.tape(0, INTS, 3);
        x.tape(1, LONGS, 3);
        for (int tape = -1; tape <= 6; tape++) {
            due("no CLIFF, tape " + tape, x.judge(tape, 0), NONE);
        }
        Answers.read(x, "part 1");
        for (int tape : new int[] {FAR_BELOW, -1, 6, FAR}) {
            due("tape " + tape, x.judge(tape, 0), NONE);
        }
        for (int sort = 0; sort < 5; sort++) {
            for (int n : new int[] {0, 12, 60}) {
                x.tape(5, sort, n);
                for (int i : new int[] {FAR_BELOW, -1, 0, n, FAR}) {
                    int want = sort != INTS ? CAST : i != 0 || n == 0 ? 100 : 0;
                    due(n + " of sort " + sort + " from " + i, x.judge(5, i), want);
                }
            }
        }
        Answers.sentence("100, if the TAPE holds nothing");
        x.tape(5, -1, 0);
        for (int i : new int[] {FAR_BELOW, -1, 0, 1, FAR}) {
            due("nothing from " + i, x.judge(5, i), 100);
            due("nothing from " + i, x.judge(4, i), 100);
        }
    }

    private static void judgedRows() {
        Answers.sentence("-5: none; 100 and how many were looked at, if the next one is beyond the row");
        for (int n : new int[] {0, 1, 2, 3, 4, 5, 6, 7, 8, 9, 10, 11, 12, 13, 59, 60}) {
            CliffCars x = plain("");
            x.tape(0, INTS, n);
            for (int k = 0; k < n; k++) {
                x.item(0, k, -1);
            }
            due("a row of " + n, x.judge(0, 0), n < 12 ? 100 + n : NOT_ANY);
        }
        CliffCars x = plain("");
        Answers.row(x, 0, -1, -1, -1, -1, -1, -1, -1, -1, -1, -1, -1, -1, 7);
        due("what stands behind twelve does not matter", x.judge(0, 0), NOT_ANY);
        due("but it does from 1 on", x.judge(0, 1), 11);
        Answers.row(x, 1, -1, -1, 7);
        due("the first that can't be, ahead of the row's end", x.judge(1, 0), 2);
        due("from it on", x.judge(1, 2), 0);
        due("behind it the row ends", x.judge(1, 3), 100);
    }

    private static void judgedPlaces() {
        Answers.sentence("from a place on; 100 at a place below 0");
        CliffCars x = plain("");
        Answers.row(x, 0, 9, -1, -1, -1, -1, -1, -1, -1, -1, -1, -1, -1, -1, -1);
        due("from 0", x.judge(0, 0), 0);
        due("from 1", x.judge(0, 1), NOT_ANY);
        due("from 2", x.judge(0, 2), NOT_ANY);
        due("from 3", x.judge(0, 3), 111);
        due("from 13", x.judge(0, 13), 101);
        due("from 14", x.judge(0, 14), 100);
        due("from 15", x.judge(0, 15), 100);
        for (int i : new int[] {FAR_BELOW, -12, -2, -1, 60, FAR - 11, FAR}) {
            due("from " + i, x.judge(0, i), 100);
        }
    }

    private static void judgedPints() {
        Answers.sentence("a TRIP that can't be so (below -1; more than tank, or than the POND has)");
        CliffCars x = Answers.on("part 1;head 2;seats 2;tank 6;pond 9");
        x.pond(9);
        x.come(0, 1, 1);
        x.tape(0, INTS, 12);
        for (int k = 1; k < 12; k++) {
            x.item(0, k, -1);
        }
        int[] pints = {FAR_BELOW, -100, -5, -2, -1, 0, 2, 3, 4, 5, 6, 7, 9, 99, FAR};
        int[] want = {0, 0, 0, 0, NOT_ANY, 0, 0, NOT_ANY, NOT_ANY, NOT_ANY, NOT_ANY, 0, 0, 0, 0};
        for (int k = 0; k < pints.length; k++) {
            x.item(0, 0, pints[k]);
            due(pints[k] + " pints", x.judge(0, 0), want[k]);
        }
        x.come(0, 0, 2);
        for (int k = 0; k < pints.length; k++) {
            x.item(0, 0, pints[k]);
            boolean goes = pints[k] >= -1 && pints[k] <= 6;
            due(pints[k] + " pints with two down", x.judge(0, 0), goes ? NOT_ANY : 0);
        }
        x.come(0, 0, 0);
        x.item(0, 0, 5);
        x.pond(5);
        due("all that the POND has", x.judge(0, 0), NOT_ANY);
        x.pond(4);
        due("one more than the POND has", x.judge(0, 0), 0);
        x.pond(8);
        x.item(0, 0, 4);
        x.come(0, 1, 4);
        due("4 pints for two: they stand", x.judge(0, 0), 0);
        x.item(0, 0, 5);
        x.item(0, 1, 5);
        due("8 less 5 are 3", x.judge(0, 0), 1);
        x.pond(9);
        due("9 less 5 are 4", x.judge(0, 0), 1);
        x.item(0, 1, -1);
        x.item(0, 11, -2);
        due("-2 in the last STEP", x.judge(0, 0), 11);
        x.item(0, 11, 0);
        due("two up for none in the last STEP", x.judge(0, 0), 11);
    }

    private static void judgedHeads() {
        Answers.sentence("a TRIP that can't be so: nobody goes");
        CliffCars x = Answers.on("part 1;head 2;seats 2;pond 20");
        x.pond(20);
        Answers.row(x, 0, -1, 1, -1, -1, -1, -1, -1, -1, -1, -1, -1, -1);
        due("empty cars would go with a pint", x.stops(1, 0, 0, 1), NOT_ANY);
        due("but nobody goes", x.judge(0, 0), 1);
        x.come(2, 1, 1);
        due("the one comes later", x.judge(0, 0), 1);
        x.come(1, 0, 1);
        due("one goes down", x.judge(0, 0), NOT_ANY);
        x.come(1, 0, 0);
        x.come(0, 1, 1);
        due("one up stands with a pint", x.judge(0, 0), 1);
        x.item(0, 1, 3);
        due("one goes up", x.judge(0, 0), NOT_ANY);
        x.item(0, 2, 3);
        due("the second one goes up", x.judge(0, 0), NOT_ANY);
        x.item(0, 3, 3);
        due("there is no third one", x.judge(0, 0), 3);
        x = Answers.on("part 1;head 2;seats 0;pond 20");
        x.pond(20);
        x.come(0, 0, 6);
        Answers.row(x, 0, 1, -1);
        due("no seats", x.judge(0, 0), 0);
    }

    private static void judgedAsOnADay() {
        Answers.sentence("all else as on a DAY");
        CliffCars x = Answers.on("part 1;head 2;seats 2;pond 9;spring 2 s=1;spring 4 w=1&s=0");
        x.pond(8);
        x.come(0, 1, 6);
        x.come(1, 1, 6);
        Answers.row(x, 0, 5, 5, -1, -1, -1, -1, -1, -1, -1, -1, -1, -1);
        due("8 less 5, and 2", x.judge(0, 0), NOT_ANY);
        x.pond(7);
        due("7 less 5, and 2", x.judge(0, 0), 1);
        x.wet(true);
        due("7 and 4 are 9 at most: less 5, and 2", x.judge(0, 0), NOT_ANY);
        x.item(0, 2, 1);
        due("9 less 5 and 2 less 5 are 1: for two up it stands", x.judge(0, 0), 2);
        x.come(2, 0, 2);
        due("two down and two up go with a pint", x.judge(0, 0), NOT_ANY);
        x.item(0, 0, -1);
        x.item(0, 1, -1);
        x.item(0, 2, 9);
        due("what is beyond the pond is lost", x.judge(0, 0), NOT_ANY);
        x.item(0, 2, 10);
        due("so 10 are too many", x.judge(0, 0), 2);
        x.item(0, 2, -1);
        x.item(0, 6, 0);
        due("as many up as down stand", x.judge(0, 0), 6);
        x.pond(8);
        due("the judged DAY changes nothing", x.pond(8), 8);

        Answers.sentence("heads beyond 8 go away on a judged DAY too");
        x = Answers.on("part 1;head 0;seats 2;pond 40");
        x.pond(40);
        x.come(0, 1, 6);
        x.come(1, 1, 6);
        Answers.row(x, 0, -1, 1, 1, 1, 1, -1, -1, -1, -1, -1, -1, -1);
        due("8 in four TRIPS", x.judge(0, 0), NOT_ANY);
        x.item(0, 5, 1);
        due("a fifth TRIP has nobody", x.judge(0, 0), 5);
        x.item(0, 0, 1);
        due("two went first: 4 and 6 are 8 still", x.judge(0, 0), 5);
        x.come(0, 0, 6);
        x.come(1, 0, 3);
        due("8 ABOVE less two: also none left", x.judge(0, 0), 5);
        x.come(2, 0, 3);
        due("two more ABOVE", x.judge(0, 0), NOT_ANY);
    }

    private static void judgedStandsOrTooFast() {
        Answers.sentence("it STANDS or is TOO FAST");
        CliffCars x = Answers.on("part 1;part 2;head 2;brake 10;drag 2 s=1;tank 20;pond 40");
        x.pond(40);
        x.come(1, 1, 1);
        x.tape(0, INTS, 12);
        for (int k = 0; k < 12; k++) {
            x.item(0, k, -1);
        }
        // PULLS of w less 4, and of twice w less 6
        for (int w = 0; w <= 20; w++) {
            x.item(0, 1, w);
            due(w + " pints", x.judge(0, 0), w > 4 && 2 * w - 6 <= 10 ? NOT_ANY : 1);
        }
    }

    private static void noImage() {
        Answers.sentence("undo: STATE: there is none");
        CliffCars x = plain("");
        x.pond(7);
        x.come(3, 1, 2);
        due("none", x.undo(), STATE);
        due("again", x.undo(), STATE);
        due("nothing is undone: COMINGS", x.come(3, 1, 2), 2);
        due("nothing is undone: POND", x.pond(7), 7);
        due("an image", x.image(), 7);
        due("now there is one", x.undo(), 7);
        due("and still", x.undo(), 7);
    }

    private static void imageOfEach() {
        Answers.sentence("THE IMAGE: COMINGS, WET, POND, which CLIFF it is, what may be bought");
        for (int k = 0; k < 24; k++) {
            CliffCars x = plain("");
            x.come(k / 2, k % 2, 4);
            x.image();
            x.come(k / 2, k % 2, 5);
            x.undo();
            due("COMINGS at " + k, x.come(k / 2, k % 2, 0), 4);
            x.undo();
            due("COMINGS at " + k + " again", x.come(k / 2, k % 2, 0), 4);
        }
        CliffCars x = plain("");
        x.image();
        x.wet(true);
        x.undo();
        due("not WET", x.wet(true), 0);
        x.image();
        x.wet(false);
        x.undo();
        due("WET", x.wet(false), 1);
        x = plain(";pond 30");
        x.pond(30);
        due("POND", x.image(), 30);
        x.pond(0);
        due("POND", x.undo(), 30);
        due("POND", x.pond(3), 30);
        Answers.read(x, "pond 2");
        due("a smaller pond kept 2", x.pond(1), 2);
        due("POND, of the CLIFF that was", x.undo(), 30);
        due("the CLIFF", x.count(4), 0);
        due("its pond", x.of(6), 30);
        x.choose(1);
        due("the other one's POND", x.image(), 2);
        x.choose(0);
        x.pond(29);
        due("POND", x.undo(), 2);
        due("the CLIFF", x.count(4), 1);
        boughtThingsOfAnImage();
    }

    private static void boughtThingsOfAnImage() {
        CliffCars x = Answers.on("part 1;pond 30");
        x.offer(2, 1, 5);
        x.image();
        x.offer(2, 2, 7);
        due("both", x.buy(12), 3);
        x.undo();
        due("one thing", x.count(2), 1);
        due("the one", x.buy(12), 1);
        due("another second one", x.offer(2, 1, 3), 1);
        due("the other is cheaper, and alone is as good as the first", x.buy(7), 2);
        due("both for 8", x.buy(8), 3);
        x.image();
        for (int k = 2; k < 4; k++) {
            x.offer(0, 1, 0);
        }
        due("full", x.offer(0, 1, 0), Answers.FULL);
        x.undo();
        due("no more full", x.offer(2, 3, 0), 2);
        due("three for 8: 12 times 6 fill the pond, as the third alone does", x.buy(8), 4);
        x = Answers.on("part 1;pond 30");
        x.image();
        x.offer(2, 1, 0);
        x.undo();
        due("none", x.count(2), 0);
        due("nothing to buy", x.buy(999), 0);
    }

    private static void whatStays() {
        Answers.sentence("RULES, CLIFFS stay");
        CliffCars x = plain("");
        x.rule(6, 3);
        x.row(0, 1);
        x.image();
        x.row(0, 1);
        x.rule(5, 4);
        Answers.read(x, "part 9;part 8");
        Answers.feed(x, "part");
        x.tape(2, LONGS, 2);
        x.item(2, 1, 77);
        x.act(0, 2, 1);
        x.undo();
        due("RULES", x.count(1), 2);
        due("the second one", x.taken(1, 4), 5);
        due("its v", x.act(1, 1, 0), -(0 + 1) - 4 - (2 + 1));
        due("the ROW", x.row(0, 0), 3);
        due("CLIFFS", x.count(0), 2);
        due("the second one", x.choose(1), 0);
        due("its PART", x.of(11), 8);
        due("THE TEXT", x.count(3), 4);
        due("TAPES", x.read(2, 1), 77);
        x.act(0, 2, 1);
        x.undo();
        due("THE TRACE", x.trace(0), 70);
        due("bodies", x.count(5), 6);
        x.feed(' ' << 8 | '5', 2);
        due("THE TEXT is a CLIFF", x.cliff(), 2);
    }

    private static void imageWithoutCliff() {
        Answers.sentence("which CLIFF it is: none");
        CliffCars x = new CliffCars();
        due("without a CLIFF", x.image(), 0);
        x.rule(0, 0);
        Answers.read(x, "pond 30");
        x.pond(9);
        due("0 again", x.undo(), 0);
        due("none", x.count(4), NOT_ANY);
        due("of", x.of(0), NONE);
        due("told", x.told(0, 0), NONE);
        due("pull", x.pull(0, 0, 0, 0, 0), NO);
        due("stops", x.stops(0, 0, 0, 0), NONE);
        due("least", x.least(0, 0, 0), NONE);
        due("jump", x.jump(0, 0, 0), NONE);
        due("pond 1", x.pond(1), BAD);
        due("pond 0", x.pond(0), 0);
        due("day", x.day(0, 4), NONE);
        due("waits", x.waits(0, 0, 0, 0, 0), NO);
        due("bell", x.bell(), NONE);
        due("whit", x.whit(), NONE);
        due("buy", x.buy(0), NONE);
        due("judge", x.judge(0, 0), NONE);
        due("CLIFFS", x.count(0), 1);
        due("none was", x.choose(0), NOT_ANY);
        due("its pond", x.pond(30), 0);
    }

    private static void imagesAgain() {
        Answers.sentence("THE IMAGE is taken: the POND");
        CliffCars x = plain("");
        x.pond(5);
        due("first", x.image(), 5);
        x.pond(6);
        due("second", x.image(), 6);
        x.pond(7);
        due("the second", x.undo(), 6);
        x.pond(8);
        due("still the second", x.undo(), 6);
        x.come(4, 0, 3);
        due("third", x.image(), 6);
        x.come(4, 0, 1);
        x.undo();
        due("the third's COMINGS", x.come(4, 0, 0), 3);
    }

    private static CliffCars ofAllKinds(int v) {
        CliffCars x = new CliffCars();
        for (int k = 0; k < 7; k++) {
            x.rule(k, v);
        }
        return x;
    }

    private static void act(CliffCars x, int rule, int act, int n, int want) {
        due("act(" + rule + ", " + act + ", " + n + ")", x.act(rule, act, n), want);
    }

    private static void actsThatWrap() {
        Answers.sentence("ACTS of a RULE with x (ints, wrapping)");
        CliffCars x = ofAllKinds(20);
        for (int n : new int[] {0, 1, -1, 7, 1000, FAR, FAR - 1, FAR_BELOW, FAR_BELOW + 1, 0x55555555, 0x2aaaaaab, 1 << 30}) {
            act(x, 0, 0, n, n);
            act(x, 0, 1, n, n - 20);
            act(x, 0, 2, n, (n - 20) * 2);
            act(x, 1, 0, n, n + 1);
            act(x, 1, 1, n, (n + 1 - 20) ^ 6);
            act(x, 1, 2, n, ((n + 1 - 20) ^ 6) * 2);
            act(x, 2, 0, n, n * 3 + 2);
            act(x, 2, 1, n, n * 3 + 2 - 20);
            act(x, 2, 2, n, (n * 3 + 2 - 20) * 2);
            act(x, 3, 0, n, n + 3);
            act(x, 3, 1, n, n + 3 - 20);
            act(x, 3, 2, n, (n + 3 - 20) * 2 + (1 + 3 - 20));
            act(x, 4, 0, n, -(n + 4));
            act(x, 4, 1, n, -(n + 4) - 20);
            act(x, 4, 2, n, (-(n - 4 + 4) - 20) * 2);
            act(x, 5, 0, n, -(n + 5));
            act(x, 5, 1, n, -(n + 5) - 20 - (2 + 5));
            act(x, 5, 2, n, (-(n - 5 + 5) - 20 - (2 + 5)) * 2);
            act(x, 6, 0, n, n + 6);
            act(x, 6, 1, n, n + 6 - 20);
            act(x, 6, 2, n, n + 6 - 20 - (n + 6 - 20) * 2);
        }
        act(x, 0, 2, FAR_BELOW, (FAR_BELOW - 20) * 2);
        act(x, 4, 0, FAR_BELOW - 4, FAR_BELOW);
        Answers.sentence("i its number; v (0 .. 20)");
        x = new CliffCars();
        for (int k = 0; k < 12; k++) {
            x.rule(0, k);
        }
        act(x, 11, 0, 0, 11);
        act(x, 11, 1, 0, 0);
        act(x, 10, 0, 0, 10);
        x = ofAllKinds(0);
        act(x, 0, 1, 5, 5);
        act(x, 5, 1, 5, -(5 + 5) - (2 + 5));
    }

    private static void actsOfNone() {
        Answers.sentence("0, and no TRACE then: no such RULE, act");
        CliffCars x = new CliffCars();
        act(x, 0, 0, 9, 0);
        due("no TRACE", x.trace(0), NONE);
        due("none ran", x.count(5), 0);
        x = ofAllKinds(3);
        int[][] none = {{7, 0}, {-1, 0}, {FAR, 1}, {FAR_BELOW, 2}, {0, 3}, {0, -1}, {5, FAR}, {5, FAR_BELOW}, {7, 3}, {-1, -1}};
        for (int[] n : none) {
            x.act(5, 2, 1);
            due("eight ran", x.count(5), 8);
            act(x, n[0], n[1], 9, 0);
            due("none ran", x.count(5), 0);
            for (int k = 0; k < 8; k++) {
                due("no TRACE", x.trace(k), NONE);
            }
        }
        act(x, 6, 2, 1, 4 - 8);
        due("six ran", x.count(5), 6);
    }

    private static void traces() {
        Answers.sentence("THE TRACE: the numbers of the bodies that ran in the latest act(), as they began");
        CliffCars x = ofAllKinds(3);
        for (int k : new int[] {FAR_BELOW, -1, 0, 1, 19, 20, 21, FAR}) {
            due("no act yet: " + k, x.trace(k), NONE);
        }
        due("no act yet", x.count(5), 0);
        int[][] bodies = {
            {10}, {11, 10}, {12, 11, 10},
            {10}, {20, 11, 10}, {12, 20, 11, 10},
            {30, 10}, {11, 30, 10}, {12, 11, 30, 10},
            {10}, {11, 10}, {40, 12, 11, 10, 11, 10},
            {50, 10}, {11, 50, 10}, {51, 12, 11, 50, 10},
            {50, 10}, {60, 11, 50, 10, 50, 10}, {51, 12, 60, 11, 50, 10, 50, 10},
            {10}, {11, 10}, {70, 11, 10, 12, 11, 10}};
        for (int k = 0; k < bodies.length; k++) {
            x.act(k / 3, k % 3, 1);
            due("how many of " + k / 3 + ", " + k % 3, x.count(5), bodies[k].length);
            for (int j = 0; j <= bodies[k].length; j++) {
                due("body " + j + " of " + k / 3 + ", " + k % 3, x.trace(j), j < bodies[k].length ? bodies[k][j] : NONE);
            }
        }
        int[] want = bodies[17];
        x.act(5, 2, 1);
        for (int k = 0; k < 25; k++) {
            due("body " + k, x.trace(k), k < want.length ? want[k] : NONE);
        }
        for (int k : new int[] {FAR_BELOW, -1, 20, FAR}) {
            due("body " + k, x.trace(k), NONE);
        }
        x.act(0, 0, 1);
        due("the latest alone", x.trace(0), 10);
        due("the latest alone", x.trace(1), NONE);
        due("one ran", x.count(5), 1);
        x.day(5, 0);
        x.rule(0, 0);
        x.taken(5, 4);
        due("no other call runs bodies", x.count(5), 1);
    }

    private static void takings() {
        Answers.sentence("A RULE taken for one of KIND k (0 .. 6), or one under that: BAD: k; NOTHING: no such RULE; CAST");
        CliffCars x = new CliffCars();
        for (int k = 0; k <= 6; k++) {
            due("no RULE, k " + k, x.taken(0, k), NOTHING);
        }
        for (int k : new int[] {FAR_BELOW, -1, 7, FAR}) {
            due("BAD ahead of NOTHING, k " + k, x.taken(0, k), BAD);
        }
        for (int i = 0; i < 7; i++) {
            x.rule(6 - i, 0);
        }
        for (int i = 0; i < 7; i++) {
            int kind = 6 - i;
            for (int k = 0; k <= 6; k++) {
                boolean so = k == 0 || k == kind || kind == 5 && k == 4;
                due("KIND " + kind + " for " + k, x.taken(i, k), so ? kind : CAST);
            }
            for (int k : new int[] {FAR_BELOW, -1, 7, FAR}) {
                due("KIND " + kind + " for " + k, x.taken(i, k), BAD);
            }
        }
        for (int rule : new int[] {FAR_BELOW, -1, 7, FAR}) {
            due("RULE " + rule, x.taken(rule, 0), NOTHING);
            due("RULE " + rule + ", BAD first", x.taken(rule, 7), BAD);
        }
    }

    private static void counts() {
        Answers.sentence("How many: 0 CLIFFS .. 5 bodies. BAD");
        CliffCars x = new CliffCars();
        int[] whats = {FAR_BELOW, -1, 0, 3, 4, 5, 6, FAR};
        int[] want = {BAD, BAD, 0, 0, NOT_ANY, 0, BAD, BAD};
        for (int k = 0; k < whats.length; k++) {
            due("count(" + whats[k] + ")", x.count(whats[k]), want[k]);
        }
        for (int n = 1; n <= 4; n++) {
            Answers.read(x, "part 1");
            x.offer(0, 1, 1);
            due("CLIFFS", x.count(0), n);
            due("things", x.count(2), n);
            due("THE CLIFF", x.count(4), n - 1);
        }
        for (int n = 1; n <= 12; n++) {
            x.rule(0, 0);
            due("RULES", x.count(1), n);
        }
        for (int n = 1; n <= 25; n++) {
            x.feed(0, 4);
            due("bytes", x.count(3), 4 * n);
        }
        due("bytes beyond 100", x.feed(0, 1), Answers.FULL);
        due("bytes", x.count(3), 100);
        x.choose(2);
        due("THE CLIFF", x.count(4), 2);
    }

    private static void tapes() {
        Answers.sentence("A TAPE becomes a row of n (0 .. 60) of a sort, or holds nothing: NONE: tape; BAD: sort, n above 60; SIZE");
        CliffCars x = new CliffCars();
        for (int tape : new int[] {FAR_BELOW, -1, 6, FAR}) {
            due("tape " + tape, x.tape(tape, 0, 1), NONE);
            due("tape " + tape + " ahead of BAD", x.tape(tape, 5, 61), NONE);
            due("tape " + tape + " ahead of SIZE", x.tape(tape, 0, -1), NONE);
            due("tape " + tape + " with nothing", x.tape(tape, -1, 0), NONE);
        }
        for (int tape = 0; tape < 6; tape++) {
            for (int sort : new int[] {FAR_BELOW, -2, 5, FAR}) {
                due("sort " + sort, x.tape(tape, sort, 1), BAD);
                due("sort " + sort + " ahead of SIZE", x.tape(tape, sort, -1), BAD);
            }
            due("still nothing", x.item(tape, 0, 1), NOTHING);
        }
        for (int sort = 0; sort < 5; sort++) {
            due("n of 61", x.tape(0, sort, 61), BAD);
            due("n far", x.tape(0, sort, FAR), BAD);
            due("n of -1", x.tape(0, sort, -1), SIZE);
            due("n far below", x.tape(0, sort, FAR_BELOW), SIZE);
            due("still nothing", x.item(0, 0, 1), NOTHING);
        }
        for (int sort = 0; sort < 5; sort++) {
            for (int n : new int[] {0, 1, 59, 60}) {
                due("a row of " + n, x.tape(sort, sort, n), 1);
                due("its last", x.read(sort, n - 1), n == 0 ? NO : 0);
                due("beyond it", x.read(sort, n), NO);
                due("put at its last", x.item(sort, n - 1, 1), n == 0 ? PLACE : 1);
                due("put beyond it", x.item(sort, n, 1), PLACE);
            }
        }
        Answers.sentence("sort -1: n does not matter");
        for (int n : new int[] {FAR_BELOW, -1, 0, 1, 60, 61, FAR}) {
            x.tape(3, 0, 2);
            due("nothing, n " + n, x.tape(3, -1, n), 1);
            due("it holds nothing", x.item(3, 0, 1), NOTHING);
            due("it holds nothing", x.read(3, 0), NO);
        }
        due("nothing again", x.tape(3, -1, 0), 1);
        Answers.sentence("all 0");
        x.tape(3, LONGS, 60);
        for (int k = 0; k < 60; k++) {
            x.item(3, k, k + 1);
        }
        x.tape(3, INTS, 60);
        for (int k = 0; k < 60; k++) {
            due("item " + k, x.read(3, k), 0);
        }
        x.item(3, 59, 4);
        x.tape(3, INTS, 2);
        x.tape(3, INTS, 60);
        due("the last behind a shorter row", x.read(3, 59), 0);
        x.item(3, 0, 4);
        x.tape(3, -1, 60);
        x.tape(3, INTS, 60);
        due("the first behind nothing", x.read(3, 0), 0);
    }

    private static void lowestBits() {
        Answers.sentence("Item i of a TAPE becomes v (its lowest bits, as many as an item has; booleans: whether v is not 0)");
        CliffCars x = new CliffCars();
        for (int sort = 0; sort < 5; sort++) {
            x.tape(sort, sort, 1);
        }
        long[] vs = {0, 1, -1, 2, 127, 128, 129, 255, 256, -128, -129, -256, 32767, 32768, 65535, 65536, -32768, -32769,
            FAR, FAR + 1L, 0xffffffffL, 1L << 32, FAR_BELOW, FAR_BELOW - 1L, Long.MAX_VALUE, Long.MIN_VALUE,
            1L << 8, 1L << 16, 1L << 63 | 1, 0x80, 0x8000, 0x80000000L};
        for (long v : vs) {
            long[] want = {(byte) v, (short) v, (int) v, v, v == 0 ? 0 : 1};
            for (int sort = 0; sort < 5; sort++) {
                due("put " + v, x.item(sort, 0, v), 1);
                due(v + " in sort " + sort, x.read(sort, 0), want[sort]);
            }
        }
        due("a byte of 128", bits(x, BYTES, 128), -128);
        due("a byte of 255", bits(x, BYTES, 255), -1);
        due("a short of 32768", bits(x, SHORTS, 32768), -32768);
        due("an int of 2147483648", bits(x, INTS, 2147483648L), -2147483648L);
        due("a boolean of -1", bits(x, BOOLEANS, -1), 1);
        due("a boolean of 0", bits(x, BOOLEANS, 0), 0);
        due("a long that is NO", bits(x, LONGS, NO), NO);
    }

    private static long bits(CliffCars x, int sort, long v) {
        x.item(sort, 0, v);
        return x.read(sort, 0);
    }

    private static void itemsAndReads() {
        Answers.sentence("item: NONE; NOTHING; PLACE. read: NO: no such TAPE, nothing there, no such place");
        CliffCars x = new CliffCars();
        for (int i : new int[] {FAR_BELOW, -1, 0, 60, FAR}) {
            for (int tape : new int[] {FAR_BELOW, -1, 6, FAR}) {
                due("put to tape " + tape, x.item(tape, i, 1), NONE);
                due("tape " + tape, x.read(tape, i), NO);
            }
            due("put to nothing", x.item(5, i, 1), NOTHING);
            due("nothing", x.read(5, i), NO);
        }
        x.tape(5, INTS, 3);
        x.tape(0, INTS, 0);
        for (int i : new int[] {FAR_BELOW, -1, 3, 4, 59, 60, 61, FAR}) {
            due("put at place " + i, x.item(5, i, 1), PLACE);
            due("place " + i, x.read(5, i), NO);
            due("put at place " + i + " of none", x.item(0, i, 1), PLACE);
        }
        due("put at place 0 of none", x.item(0, 0, 1), PLACE);
        due("place 0 of none", x.read(0, 0), NO);
        same(x, 5, 0, 0, 0);
        due("put first", x.item(5, 0, 7), 1);
        due("put last", x.item(5, 2, 8), 1);
        same(x, 5, 7, 0, 8);
    }

    private static void shiftsOfNone() {
        Answers.sentence("shift: NONE: tapes; NOTHING; CAST: of unlike sorts; PLACE");
        CliffCars x = new CliffCars();
        x.tape(0, INTS, 3);
        x.tape(1, LONGS, 3);
        for (int tape : new int[] {FAR_BELOW, -1, 6, FAR}) {
            due("from tape " + tape, x.shift(tape, 0, 0, 0, 1), NONE);
            due("to tape " + tape, x.shift(0, 0, tape, 0, 1), NONE);
            due("NONE ahead of NOTHING", x.shift(5, -1, tape, -1, -1), NONE);
            due("NONE ahead of NOTHING", x.shift(tape, -1, 5, -1, -1), NONE);
        }
        due("from nothing", x.shift(5, 0, 0, 0, 1), NOTHING);
        due("to nothing", x.shift(0, 0, 5, 0, 1), NOTHING);
        due("from nothing to nothing", x.shift(4, 0, 5, 0, 0), NOTHING);
        due("nothing to itself", x.shift(5, 0, 5, 0, 0), NOTHING);
        due("NOTHING ahead of PLACE", x.shift(5, -1, 0, 0, 1), NOTHING);
        due("NOTHING ahead of PLACE", x.shift(0, 0, 5, 4, -1), NOTHING);
        for (int a = 0; a < 5; a++) {
            for (int b = 0; b < 5; b++) {
                x.tape(2, a, 2);
                x.tape(3, b, 2);
                x.item(2, 1, 1);
                due("sort " + a + " to " + b, x.shift(2, 0, 3, 0, 2), a == b ? 2 : CAST);
                due("what came", x.read(3, 1), a == b ? 1 : 0);
                due("none of sort " + a + " to " + b, x.shift(2, 0, 3, 0, 0), a == b ? 0 : CAST);
                due("CAST ahead of PLACE", x.shift(2, -1, 3, 0, 5), a == b ? PLACE : CAST);
            }
        }
    }

    private static void shiftsAtTheEnds() {
        Answers.sentence("PLACE: n, i or j is below 0, or beyond either's end");
        CliffCars x = new CliffCars();
        Answers.row(x, 0, 1, 2, 3, 4);
        Answers.row(x, 1, 5, 6, 7);
        x.tape(2, INTS, 0);
        int[][] refused = {
            {-1, 0, 1}, {0, -1, 1}, {0, 0, -1}, {-1, -1, -1}, {-1, 0, 0}, {0, -1, 0},
            {4, 0, 1}, {5, 0, 0}, {0, 4, 0}, {0, 3, 1}, {0, 0, 4}, {0, 1, 3}, {2, 0, 3}, {1, 2, 2},
            {FAR, 0, 1}, {0, FAR, 1}, {0, 0, FAR}, {1, 0, FAR}, {FAR, FAR, FAR}, {FAR_BELOW, 0, 1}, {0, FAR_BELOW, 1},
            {0, 0, FAR_BELOW}, {1, 1, FAR_BELOW}, {4, 3, FAR}, {60, 0, 0}, {0, 0, 60}};
        for (int[] r : refused) {
            due("shift from " + r[0] + " to " + r[1] + " of " + r[2], x.shift(0, r[0], 1, r[1], r[2]), PLACE);
        }
        same(x, 0, 1, 2, 3, 4);
        same(x, 1, 5, 6, 7);
        int[][] taken = {{0, 0, 0}, {4, 3, 0}, {4, 0, 0}, {0, 3, 0}};
        for (int[] t : taken) {
            due("none from " + t[0] + " to " + t[1], x.shift(0, t[0], 1, t[1], t[2]), 0);
        }
        same(x, 1, 5, 6, 7);
        due("the last to the last", x.shift(0, 3, 1, 2, 1), 1);
        same(x, 1, 5, 6, 4);
        due("as many as the other has", x.shift(0, 1, 1, 0, 3), 3);
        same(x, 1, 2, 3, 4);
        due("one too many", x.shift(0, 0, 1, 0, 4), PLACE);
        due("none to a row of none", x.shift(0, 0, 2, 0, 0), 0);
        due("none from a row of none", x.shift(2, 0, 0, 4, 0), 0);
        due("one from a row of none", x.shift(2, 0, 0, 0, 1), PLACE);
        due("one to a row of none", x.shift(0, 0, 2, 0, 1), PLACE);
        x.tape(4, LONGS, 60);
        x.tape(5, LONGS, 60);
        x.item(4, 0, Long.MAX_VALUE);
        x.item(4, 59, Long.MIN_VALUE + 1);
        due("all 60", x.shift(4, 0, 5, 0, 60), 60);
        due("the first", x.read(5, 0), Long.MAX_VALUE);
        due("the last", x.read(5, 59), Long.MIN_VALUE + 1);
        due("61", x.shift(4, 0, 5, 0, 61), PLACE);
        due("the 60th and none", x.shift(4, 60, 5, 60, 0), 0);
    }

    private static void shiftsAsTheyWereBefore() {
        Answers.sentence("another one (or the same): as they all were before");
        CliffCars x = new CliffCars();
        Answers.row(x, 0, 1, 2, 3, 4, 5, 6);
        due("up by one", x.shift(0, 0, 0, 1, 5), 5);
        same(x, 0, 1, 1, 2, 3, 4, 5);
        due("down by two", x.shift(0, 2, 0, 0, 4), 4);
        same(x, 0, 2, 3, 4, 5, 4, 5);
        due("up by three", x.shift(0, 0, 0, 3, 3), 3);
        same(x, 0, 2, 3, 4, 2, 3, 4);
        due("to the same place", x.shift(0, 1, 0, 1, 5), 5);
        same(x, 0, 2, 3, 4, 2, 3, 4);
        due("beyond its own end", x.shift(0, 0, 0, 1, 6), PLACE);
        same(x, 0, 2, 3, 4, 2, 3, 4);
        Answers.row(x, 1, 9, 9, 9);
        due("to another one", x.shift(0, 3, 1, 0, 3), 3);
        same(x, 1, 2, 3, 4);
        same(x, 0, 2, 3, 4, 2, 3, 4);
        x.item(0, 3, 8);
        same(x, 1, 2, 3, 4);
        for (int sort = 0; sort < 5; sort++) {
            x.tape(2, sort, 4);
            x.item(2, 0, 1);
            due("up by one of sort " + sort, x.shift(2, 0, 2, 1, 3), 3);
            same(x, 2, 1, 1, 0, 0);
            due("up by one again", x.shift(2, 0, 2, 1, 3), 3);
            same(x, 2, 1, 1, 1, 0);
        }
    }

    private static void fiveHundredAndTwelve() {
        Answers.sentence("An object is used for at most 512 calls");
        CliffCars x = new CliffCars();
        String text = "part 1;head 2;seats 2;spring 1 s>3";
        Answers.read(x, text);
        x.pond(20);
        x.come(0, 1, 6);
        x.come(5, 1, 6);
        x.come(5, 0, 3);
        int best = x.rule(4, 0);
        x.offer(1, 1, 5);
        x.offer(2, 1, 5);
        int calls = text.length() + 8;
        int buy = x.buy(999), whit = x.whit(), bell = x.bell();
        long waits = x.waits(0, 20, 0, 0, 0);
        int up = x.day(best, 0);
        calls += 5;
        for (; calls < 508; calls += 4) {
            due("buy", x.buy(999), buy);
            due("whit", x.whit(), whit);
            due("bell", x.bell(), bell);
            due("day", x.day(best, 0), up);
        }
        while (calls < 512) {
            due("waits", x.waits(0, 20, 0, 0, 0), waits);
            calls++;
        }
        CliffCars y = new CliffCars();
        for (int k = 0; k < 511; k++) {
            y.feed('x', k == 0 ? 1 : 0);
        }
        due("the 512th", y.cliff(), -10);
    }
}
