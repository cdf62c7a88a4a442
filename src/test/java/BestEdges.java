/** The edges of WAIT, BELL, WHIT and BUY ("Terms" 3), and of promises 17 to 21. */
public final class BestEdges {
    private static final int NONE = Answers.NONE, BAD = Answers.BAD, FULL = Answers.FULL, NOT_ANY = Answers.NOT_ANY;
    private static final int CANNOT_BE = Answers.CANNOT_BE;
    private static final int FAR = Answers.FAR, FAR_BELOW = Answers.FAR_BELOW;
    private static final long NO = Answers.NO;

    private static final int TANK = 0, SEATS = 1, SPRING = 2, POND = 3;

    public static void main(String[] args) {
        worthOfWhatIsLeft();
        aheadOfWhatComes();
        aheadBeyondEight();
        moreThanNone();
        leftOfADay();
        cannotBe();
        waitsOfNone();
        waitsAtTheEdges();
        bellOfSeveral();
        bellFrom0To11();
        whitFrom1To6();
        whitSixAtMost();
        whitBelowAlone();
        whitByBest();
        things();
        purses();
        setsOfSeveral();
        setsThatAreBest();
        tanksAndSeats();
        ponds();
        springs();
        fourThings();
        Answers.end();
    }

    private static void due(String what, long got, long want) {
        Answers.due(what, got, want);
    }

    /** LEAST is twice the heads more up, and 1; none for more down than up. */
    private static CliffCars plain(String more) {
        return Answers.on("part 1;head 2;seats 2" + more);
    }

    private static void worthOfWhatIsLeft() {
        Answers.sentence("WORTH of what is left of a DAY: 100 times UP, and LEFT");
        CliffCars x = plain("");
        for (int n : new int[] {0, 1, 19, 20}) {
            due("nobody, from STEP 0 on", x.waits(0, n, 0, 0, 0), n);
            due("nobody, in STEP 11", x.waits(11, n, 0, 0, 0), n);
            due("somebody ABOVE alone", x.waits(11, n, 1, 0, 0), n);
        }
        due("one up", x.waits(11, 20, 0, 1, 0), 117);
        due("two up", x.waits(11, 20, 0, 2, 0), 215);
        due("two of eight up", x.waits(11, 20, 0, 8, 0), 215);
        due("four of eight up in two STEPS", x.waits(10, 20, 0, 8, 0), 410);
        due("all of eight up in four STEPS", x.waits(8, 20, 0, 8, 0), 800);
        due("19 pints are not enough for the last ones", x.waits(8, 19, 0, 8, 0), 604);
        due("six in three STEPS", x.waits(9, 19, 0, 8, 0), 604);
        due("with as many ABOVE a pint each", x.waits(8, 4, 8, 8, 0), 800);
        x = Answers.on("part 1;head 2;seats 2;spring 9 s=10");
        due("the SPRING is still to come", x.waits(10, 3, 0, 0, 0), 12);
        due("the SPRING is gone", x.waits(11, 3, 0, 0, 0), 3);
        due("the SPRING comes once", x.waits(0, 3, 0, 0, 0), 12);
    }

    private static void aheadOfWhatComes() {
        Answers.sentence("WAIT: with so much in the POND, so many ABOVE and BELOW (ahead of what comes then)");
        CliffCars x = plain(";spring 2 s=11");
        x.come(11, 1, 1);
        due("a head and the SPRING come", x.waits(11, 1, 0, 0, 0), 100);
        due("a TRIP brings 100 for 3", x.waits(11, 1, 0, 0, 1), 97);
        due("a pint is missing", x.waits(11, 0, 0, 0, 0), 2);
        due("a pint is missing", x.waits(11, 0, 0, 0, 1), CANNOT_BE);
        due("what is beyond the pond is lost ahead of the TRIP", x.waits(11, 20, 0, 0, 0), 117);
        due("one waits already", x.waits(11, 3, 0, 1, 0), 200);
        x.come(11, 0, 2);
        due("two ABOVE come, too", x.waits(11, 0, 0, 0, 0), 102);
        due("two ABOVE come, too: a TRIP for none", x.waits(11, 0, 0, 0, 1), 100);
        x.come(11, 0, 1);
        due("one ABOVE comes, too: a TRIP for 1", x.waits(11, 0, 0, 0, 1), 99);
        due("one more waits there", x.waits(11, 0, 1, 0, 1), 100);
        x.come(11, 0, 0);
        x.come(10, 1, 6);
        due("what came in STEP 10 is not there in STEP 11", x.waits(11, 20, 0, 0, 0), 117);
        due("from STEP 10 on it comes", x.waits(10, 20, 0, 0, 0), 412);
    }

    private static void aheadBeyondEight() {
        Answers.sentence("WAIT: heads come (those beyond 8 on each side go away)");
        CliffCars x = Answers.on("part 1;head 0;seats 6;pond 40");
        x.come(10, 1, 6);
        due("8 of 14: six, then two", x.waits(10, 40, 0, 8, 0), 838);
        due("8 of 8", x.waits(10, 40, 0, 2, 0), 838);
        due("7 of 7", x.waits(10, 40, 0, 1, 0), 738);
        due("six of six", x.waits(10, 40, 0, 0, 0), 639);
        due("six at once", x.waits(11, 40, 0, 8, 0), 639);
        x = Answers.on("part 1;head 1;seats 6;tank 60;pond 40");
        x.come(10, 0, 6);
        // 8 of 14 ABOVE help six and then two up: none is wanted but for as many as go up
        due("of 14 ABOVE six and two go down", x.waits(10, 40, 8, 8, 0), 838);
        due("six and two of eight", x.waits(10, 40, 2, 8, 0), 838);
        due("six and one of seven", x.waits(10, 40, 1, 8, 0), 837);
    }

    private static void moreThanNone() {
        Answers.sentence("what a TRIP is worth there more than none (may be below 0)");
        CliffCars x = plain("");
        due("one up for 3", x.waits(11, 20, 0, 1, 1), 97);
        due("two up for 5", x.waits(11, 20, 0, 2, 1), 195);
        due("two up and two down for 1", x.waits(11, 20, 2, 2, 1), 199);
        due("one down for none", x.waits(11, 20, 1, 0, 1), 0);
        due("one up a STEP earlier", x.waits(10, 20, 0, 1, 1), 0);
        due("three: two a STEP earlier", x.waits(10, 20, 0, 3, 1), 97);
        x = plain(";drag 1 s=10");
        due("a pint dearer", x.waits(10, 20, 0, 1, 1), -1);
        due("WORTH is that of none", x.waits(10, 20, 0, 1, 0), 117);
        x = plain(";drag 3 s<12");
        due("one down for 2", x.waits(11, 20, 1, 0, 1), -2);
        due("WORTH is that of none", x.waits(11, 20, 1, 0, 0), 20);
        x = plain(";drag 3 s=10");
        due("with 5 pints one dear TRIP takes what another head wants", x.waits(10, 5, 1, 0, 1), -2);
        x.come(11, 1, 2);
        // none: one down and two up for 3 in STEP 11; one down first: then two up want 5 of 3
        due("one down for 2 takes the water of two up", x.waits(10, 5, 1, 0, 1), 3 - 202);
    }

    private static void leftOfADay() {
        Answers.sentence("WORTH of what is left of a DAY: by its STEP, its POND, those ABOVE and those BELOW");
        CliffCars x = plain("");
        x.come(11, 1, 1);
        // the one ABOVE, if it goes in STEP 10, does not help the one who comes in STEP 11
        due("by those ABOVE alone", x.waits(10, 20, 1, 0, 1), 117 - 119);
        x = plain(";spring 20 s=10");
        // one goes up in STEP 9, and the SPRING fills the POND again
        due("by those BELOW alone", x.waits(9, 20, 0, 1, 1), 120 - 117);
        x = plain(";tank 0");
        x.come(2, 1, 1);
        x.come(11, 0, 1);
        x.come(11, 1, 1);
        // without water two go down for each who goes up: in STEPS 2 and 11, if of three none goes in STEP 0
        due("by those ABOVE and BELOW", x.waits(0, 20, 3, 0, 1), 20 - 220);
        x = Answers.on("part 1;head 1;seats 2;drag 99 s>1&s<11");
        for (int k = 0; k < 3; k++) {
            x.come(k, 1, 6);
            x.come(k, 0, k < 2 ? 1 : 0);
        }
        x.come(11, 0, 6);
        // two up with one down in STEP 0 take both pints; with two down in STEPS 1 and 11 a pint each
        due("by the POND and those ABOVE", x.waits(0, 2, 0, 0, 1), 200 - 400);
    }

    private static void cannotBe() {
        Answers.sentence("if it CAN'T be: -99999");
        CliffCars x = plain(";tank 5");
        due("nobody", x.waits(11, 20, 0, 0, 1), CANNOT_BE);
        due("the POND has it", x.waits(11, 5, 0, 2, 1), 195);
        due("the POND has it not", x.waits(11, 4, 0, 2, 1), CANNOT_BE);
        due("a tank of 5", x.waits(11, 20, 0, 8, 1), 195);
        due("in STEP 0", x.waits(0, 20, 0, 0, 1), CANNOT_BE);
        x = plain(";tank 4");
        due("a tank of 4", x.waits(11, 20, 0, 8, 1), CANNOT_BE);
        due("WORTH is what is left", x.waits(11, 20, 0, 8, 0), 20);
        x = plain(";brake 3");
        due("TOO FAST", x.waits(11, 20, 2, 0, 1), CANNOT_BE);
        due("not too fast", x.waits(11, 20, 2, 1, 1), 100);
        x = Answers.on("part 1;head 2;seats 0");
        due("no seats", x.waits(11, 20, 8, 8, 1), CANNOT_BE);
        due("no seats", x.waits(11, 20, 8, 8, 0), 20);
    }

    private static void waitsOfNone() {
        Answers.sentence("waits: NO: no CLIFF, such STEP, pond (0 .. THE CLIFF's), above, below (0 .. 8), what");
        for (int what = 0; what < 2; what++) {
            due("no CLIFF", Answers.noCliff().waits(0, 0, 0, 0, what), NO);
            CliffCars x = plain(";pond 7");
            for (int step : new int[] {FAR_BELOW, -1, 12, FAR}) {
                due("STEP " + step, x.waits(step, 0, 0, 0, what), NO);
            }
            for (int pond : new int[] {FAR_BELOW, -1, 8, 40, FAR}) {
                due("pond " + pond, x.waits(0, pond, 0, 0, what), NO);
            }
            for (int n : new int[] {FAR_BELOW, -1, 9, FAR}) {
                due("above " + n, x.waits(0, 0, n, 0, what), NO);
                due("below " + n, x.waits(0, 0, 0, n, what), NO);
            }
        }
        CliffCars x = plain(";pond 7");
        for (int what : new int[] {FAR_BELOW, -1, 2, FAR}) {
            due("what " + what, x.waits(0, 0, 0, 0, what), NO);
        }
        x = Answers.on("pond 40");
        due("pond 40", x.waits(0, 40, 0, 0, 0), 40);
        due("pond 41", x.waits(0, 41, 0, 0, 0), NO);
        x = Answers.on("pond 0");
        due("pond 0", x.waits(0, 0, 0, 0, 0), 0);
        due("pond 1", x.waits(0, 1, 0, 0, 0), NO);
    }

    private static void waitsAtTheEdges() {
        Answers.sentence("waits: STEP 0 and 11, pond 0 and THE CLIFF's, above and below 0 and 8");
        CliffCars x = Answers.on("part 1;head 0;seats 6;pond 9");
        due("the last of all", x.waits(11, 9, 8, 8, 0), 608);
        due("the last of all, a TRIP", x.waits(11, 9, 8, 8, 1), 599);
        due("the first of all", x.waits(0, 0, 0, 0, 0), 0);
        due("8 in two TRIPS", x.waits(0, 9, 8, 8, 0), 807);
        due("one now and one later, or two later", x.waits(0, 9, 8, 8, 1), 0);
        due("one pint only: six now or later", x.waits(0, 1, 0, 8, 0), 600);
        due("the DAY's own POND does not matter", x.pond(5), 0);
        due("the last of all", x.waits(11, 9, 8, 8, 0), 608);
        due("the POND stays", x.pond(0), 5);
    }

    private static void bellOfSeveral() {
        Answers.sentence("BELL that is best: of several the least");
        due("no CLIFF", Answers.noCliff().bell(), NONE);
        CliffCars x = plain("");
        due("nothing comes", x.bell(), 0);
        x.pond(20);
        due("water alone", x.bell(), 0);
        x.come(0, 1, 1);
        due("one in STEP 0: all the same", x.bell(), 0);
        x.come(0, 1, 0);
        x.come(11, 1, 1);
        due("one in STEP 11: by 1 or 11", x.bell(), 0);
        x.come(11, 0, 1);
        due("with one ABOVE", x.bell(), 0);
        x = plain(";drag 1 s=0;drag 1 s=1;drag 1 s=2;drag 1 s=3");
        x.pond(20);
        x.come(1, 1, 1);
        // by 1 in STEP 1 with 4 pints, by 2 in 2, by 3 in 3 with 4, by 4 in 4 with 3, by 5 in 5
        due("by 4 with 3 pints", x.bell(), 3);
    }

    private static void bellFrom0To11() {
        Answers.sentence("BELL: the v (0 .. 11) with the most WORTH");
        // a TRIP ahead of STEP t would take a pint for the one ABOVE alone; in STEP t it takes the one BELOW, too
        for (int t = 2; t <= 11; t++) {
            CliffCars x = Answers.on("part 1;head 0;seats 6;spring 1 s=" + t);
            x.come(t, 1, 1);
            due("nothing to lose ahead of " + t, x.bell(), 0);
            x.come(1, 0, 1);
            x.pond(1);
            due("by " + t, x.bell(), t - 1);
        }
        CliffCars x = Answers.on("part 1;head 0;seats 6");
        x.pond(20);
        x.come(0, 1, 1);
        for (int k = 1; k < 12; k++) {
            x.come(k, 0, 1);
        }
        due("all but by 12 go down for nothing", x.bell(), 11);
        x.come(11, 0, 0);
        due("by 12 costs no more, but by 11 costs the same", x.bell(), 11);
        for (int k = 1; k < 12; k++) {
            x.come(k, 0, k == 11 ? 1 : 0);
        }
        // by 1 and by 11 a pint for the one ABOVE in STEP 11; by 2 none
        due("by 2", x.bell(), 1);
    }

    /** With seats for six and nothing that weighs, each TRIP takes a pint. */
    private static CliffCars light(int seats, int pond) {
        CliffCars x = Answers.on("part 1;head 0;seats " + seats + ";pond 40");
        x.pond(pond);
        return x;
    }

    private static void whitFrom1To6() {
        Answers.sentence("WHIT: the least n (1 .. 6) such that somebody waits BELOW at the end by BEST; -5: none");
        due("no CLIFF", Answers.noCliff().whit(), NONE);
        for (int seats = 0; seats <= 6; seats++) {
            CliffCars x = light(seats, 40);
            due("nobody comes, seats " + seats, x.whit(), NOT_ANY);
            x.come(11, 1, 1);
            due("n times one in the last STEP, seats " + seats, x.whit(), seats == 6 ? NOT_ANY : seats + 1);
            x.come(11, 1, 6);
            due("six in the last STEP, seats " + seats, x.whit(), seats == 6 ? NOT_ANY : 1);
            x.come(11, 1, 2);
            due("n times two in the last STEP, seats " + seats, x.whit(), seats == 6 ? NOT_ANY : seats / 2 + 1);
        }
        CliffCars x = light(1, 40);
        x.come(7, 1, 1);
        due("n times one with five STEPS", x.whit(), 6);
        x.come(7, 1, 0);
        x.come(6, 1, 1);
        due("n times one with six STEPS", x.whit(), NOT_ANY);
        x.come(6, 1, 0);
        x.come(11, 0, 6);
        due("those ABOVE are not BELOW", x.whit(), NOT_ANY);
    }

    private static void whitSixAtMost() {
        Answers.sentence("WHIT: n times as many came BELOW (6 at most each STEP)");
        for (int n = 1; n <= 6; n++) {
            CliffCars x = light(6, 40);
            x.come(11, 1, n);
            due("no more than the seats for n times " + n, x.whit(), NOT_ANY);
            x.come(10, 1, n);
            due("each STEP its own six, for n times " + n, x.whit(), NOT_ANY);
            x.come(11, 1, 0);
            x.come(10, 1, 0);
            x.come(0, 1, n);
            x.pond(1);
            due("with a single pint for n times " + n, x.whit(), NOT_ANY);
            x.come(1, 1, 1);
            // n times the one and k: with a pint for six of them
            int want = 1;
            while (Math.min(6, want * n) + want <= 6) {
                want++;
            }
            due("with a single pint for n times " + n + " and 1", x.whit(), want);
        }
    }

    private static void whitBelowAlone() {
        Answers.sentence("WHIT: came BELOW: those ABOVE are as they were");
        CliffCars x = Answers.on("part 1;head 2;seats 6;tank 60;pond 0");
        x.come(11, 0, 3);
        x.come(11, 1, 1);
        // without water three down bring two up and no more
        due("three ABOVE", x.whit(), 3);
        x.come(11, 0, 1);
        due("one ABOVE", x.whit(), 1);
        x.come(11, 0, 2);
        due("two ABOVE", x.whit(), 2);
        x.come(11, 0, 6);
        due("six ABOVE", x.whit(), 6);
        x.come(10, 0, 1);
        due("seven ABOVE", x.whit(), 6);
        due("come stays", x.come(11, 1, 1), 1);
        due("come stays", x.come(11, 0, 6), 6);
    }

    private static void whitByBest() {
        Answers.sentence("WHIT: by BEST");
        CliffCars x = plain("");
        x.come(0, 1, 1);
        x.come(1, 1, 1);
        x.pond(5);
        // two together take 5; four would take 10
        due("each alone would take 3", x.whit(), 2);
        x.pond(4);
        due("the second has no water", x.whit(), 1);
        x.pond(10);
        due("four together", x.whit(), 3);
        x.pond(15);
        due("six together", x.whit(), 4);
        x.pond(19);
        due("seven of eight", x.whit(), 4);
        x.pond(20);
        due("eight; of ten two are LOST ahead of the first TRIP, and none waits", x.whit(), NOT_ANY);
    }

    private static void things() {
        Answers.sentence("things of sorts 0 .. 3 of a SIZE (1 .. 20) for a PRICE (0 .. 99), 4 at most: NONE; BAD; FULL");
        CliffCars x = new CliffCars();
        for (int sort : new int[] {FAR_BELOW, -1, 4, FAR}) {
            due("sort " + sort, x.offer(sort, 1, 0), NONE);
            due("sort " + sort + " ahead of BAD", x.offer(sort, 0, 100), NONE);
        }
        for (int sort = 0; sort < 4; sort++) {
            for (int size : new int[] {FAR_BELOW, -1, 0, 21, FAR}) {
                due("size " + size, x.offer(sort, size, 0), BAD);
            }
            for (int price : new int[] {FAR_BELOW, -1, 100, FAR}) {
                due("price " + price, x.offer(sort, 1, price), BAD);
            }
        }
        due("none came", x.count(2), 0);
        int[] sizes = {1, 20, 1, 20}, prices = {0, 99, 99, 0};
        for (int k = 0; k < 4; k++) {
            due("thing " + k, x.offer(3 - k, sizes[k], prices[k]), k);
            due("how many", x.count(2), k + 1);
        }
        for (int sort = 0; sort < 4; sort++) {
            due("a fifth", x.offer(sort, 1, 0), FULL);
        }
        due("BAD ahead of FULL", x.offer(0, 21, 0), BAD);
        due("BAD ahead of FULL", x.offer(0, 1, 100), BAD);
        due("NONE ahead of FULL", x.offer(4, 1, 0), NONE);
        due("NONE ahead of FULL", x.offer(-1, 0, 0), NONE);
        due("how many", x.count(2), 4);
    }

    private static void purses() {
        Answers.sentence("BUY for a purse (0 .. 999): NONE: no CLIFF; BAD");
        due("no CLIFF", Answers.noCliff().buy(0), NONE);
        due("no CLIFF ahead of BAD", Answers.noCliff().buy(1000), NONE);
        due("no CLIFF ahead of BAD", Answers.noCliff().buy(-1), NONE);
        CliffCars x = Answers.on("spring 1 s=0");
        for (int purse : new int[] {FAR_BELOW, -1, 1000, FAR}) {
            due("purse " + purse, x.buy(purse), BAD);
        }
        due("nothing for nothing", x.buy(0), 0);
        due("nothing for 999", x.buy(999), 0);
        x.offer(SPRING, 1, 99);
        due("a pint short", x.buy(98), 0);
        due("just enough", x.buy(99), 1);
        due("more than enough", x.buy(100), 1);
        due("all that a purse may have", x.buy(999), 1);
        due("none", x.buy(0), 0);
        x = Answers.on("spring 1 s=0");
        x.offer(SPRING, 1, 0);
        due("for nothing", x.buy(0), 1);
        x = Answers.on("part 1;pond 40");
        x.offer(SPRING, 1, 10);
        x.offer(SPRING, 1, 7);
        due("both for 17", x.buy(17), 3);
        due("not both for 16", x.buy(16), 2);
        due("the dearer not for 9", x.buy(9), 2);
        due("none for 6", x.buy(6), 0);
    }

    private static void setsOfSeveral() {
        Answers.sentence("of several the cheapest, then the least as bits");
        CliffCars x = Answers.on("part 1;pond 1");
        x.offer(SPRING, 1, 5);
        x.offer(SPRING, 2, 4);
        x.offer(SPRING, 3, 4);
        x.offer(SPRING, 4, 9);
        // each fills the pond
        due("the cheapest, the first of two", x.buy(999), 2);
        due("with 4", x.buy(4), 2);
        due("with 3", x.buy(3), 0);
        x = Answers.on("part 1;pond 1");
        x.offer(SPRING, 1, 9);
        x.offer(SPRING, 1, 8);
        x.offer(SPRING, 1, 7);
        x.offer(SPRING, 1, 6);
        due("the last is the cheapest", x.buy(999), 8);
        due("with 7", x.buy(7), 8);
        x = Answers.on("part 1;pond 24");
        x.offer(SPRING, 1, 5);
        x.offer(SPRING, 1, 5);
        x.offer(SPRING, 2, 10);
        due("two of 5 or one of 10: the least as bits", x.buy(999), 3);
        x = Answers.on("part 1;pond 24");
        x.offer(SPRING, 2, 10);
        x.offer(SPRING, 1, 5);
        x.offer(SPRING, 1, 5);
        due("one of 10 or two of 5: the least as bits", x.buy(999), 1);
        x = Answers.on("part 1;pond 24");
        x.offer(SPRING, 2, 10);
        x.offer(SPRING, 1, 5);
        x.offer(SPRING, 1, 4);
        due("two for 9", x.buy(999), 6);
        due("two for 9", x.buy(9), 6);
        due("one for 4: only half", x.buy(8), 4);
        x = Answers.on("part 1;pond 24");
        x.offer(SPRING, 1, 0);
        x.offer(SEATS, 1, 0);
        x.offer(SPRING, 1, 0);
        x.offer(TANK, 1, 0);
        due("what is for nothing and no use stays", x.buy(0), 5);
        x = Answers.on("part 1;pond 24");
        x.offer(TANK, 1, 0);
        x.offer(SEATS, 1, 0);
        due("no use at all", x.buy(999), 0);
    }

    private static void setsThatAreBest() {
        Answers.sentence("of all sets for a purse that with which a DAY by BEST is of the most WORTH");
        CliffCars x = Answers.on("part 1;head 2;seats 1;pond 40");
        x.pond(9);
        x.come(11, 1, 6);
        x.offer(SEATS, 1, 30);
        x.offer(SEATS, 2, 50);
        // 1, 2, 3, 4 up for 3, 5, 7, 9 pints
        due("two up", x.buy(30), 1);
        due("two up", x.buy(49), 1);
        due("three up", x.buy(50), 2);
        due("three up", x.buy(79), 2);
        due("four up", x.buy(80), 3);
        x.pond(8);
        // with seats for four the TRIP would need 9 of 8
        due("three up with the last pints", x.buy(80), 2);
        x.pond(6);
        due("two up", x.buy(80), 1);
        x.pond(4);
        due("one up as it is", x.buy(80), 0);
        due("things stay", x.count(2), 2);
        due("seats stay", x.of(5), 1);
        x.come(11, 1, 1);
        x.pond(9);
        due("no more are there", x.buy(999), 0);
    }

    private static void tanksAndSeats() {
        Answers.sentence("a tank, seats are so much greater by it (60, 6 at most)");
        CliffCars x = Answers.on("part 1;head 0;drag 20 s<12;tank 0;pond 40");
        x.pond(40);
        x.come(11, 1, 1);
        x.offer(TANK, 20, 5);
        x.offer(TANK, 1, 6);
        due("21 pints want both", x.buy(11), 3);
        due("20 are no use", x.buy(10), 0);
        x = Answers.on("part 1;head 0;drag 39 s<12;tank 20;pond 40");
        x.pond(40);
        x.come(11, 1, 1);
        x.offer(TANK, 19, 1);
        x.offer(TANK, 20, 2);
        due("40 pints", x.buy(999), 2);
        due("39 are no use", x.buy(1), 0);
        x = Answers.on("part 1;head 0;drag 39 s<12;tank 60;pond 40");
        x.pond(40);
        x.come(11, 1, 1);
        x.offer(TANK, 20, 0);
        due("a tank of 60 is great enough", x.buy(0), 0);
        x = light(5, 1);
        x.come(10, 1, 2);
        x.come(11, 1, 6);
        x.offer(SEATS, 1, 4);
        x.offer(SEATS, 2, 4);
        x.offer(SEATS, 20, 4);
        due("seats for six, not for seven or more", x.buy(999), 1);
        x = light(4, 1);
        x.come(10, 1, 2);
        x.come(11, 1, 6);
        x.offer(SEATS, 1, 1);
        x.offer(SEATS, 2, 2);
        x.offer(SEATS, 3, 3);
        due("seats for five", x.buy(1), 1);
        due("seats for six", x.buy(2), 2);
        due("no more than six", x.buy(999), 2);
        x = light(0, 1);
        x.come(11, 1, 6);
        x.offer(SEATS, 1, 1);
        due("seats for one", x.buy(1), 1);
    }

    private static void ponds() {
        Answers.sentence("a pond is so much greater by it (40 at most)");
        CliffCars x = Answers.on("pond 39;spring 99 s=0");
        x.offer(POND, 1, 5);
        x.offer(POND, 2, 5);
        x.offer(POND, 20, 5);
        due("a pond of 40, not of 41", x.buy(999), 1);
        x = Answers.on("pond 38;spring 99 s=0");
        x.offer(POND, 1, 5);
        x.offer(POND, 2, 6);
        x.offer(POND, 3, 7);
        due("a pond of 39", x.buy(5), 1);
        due("a pond of 40", x.buy(6), 2);
        due("a pond of 40", x.buy(999), 2);
        x = Answers.on("pond 0;spring 99 s=0");
        x.offer(POND, 20, 5);
        x.offer(POND, 20, 6);
        due("a pond of 20", x.buy(5), 1);
        due("two ponds: 40", x.buy(11), 3);
        x = Answers.on("pond 10");
        x.pond(10);
        x.offer(POND, 20, 0);
        due("a pond brings no water", x.buy(0), 0);
        due("the POND may not be greater than THE CLIFF's", x.pond(11), BAD);
        x = Answers.on("pond 40;spring 99 s=0");
        x.offer(POND, 1, 0);
        due("a pond of 40 already", x.buy(0), 0);
    }

    private static void springs() {
        Answers.sentence("spring in each STEP");
        CliffCars x = Answers.on("part 1;head 11;pond 12");
        x.come(11, 1, 1);
        x.offer(SPRING, 1, 5);
        x.offer(SPRING, 2, 6);
        // 12 pints in the last STEP, by twelve of 1 already
        due("twelve times 1", x.buy(6), 1);
        x = Answers.on("part 1;head 12;pond 13");
        x.come(11, 1, 1);
        x.offer(SPRING, 1, 5);
        x.offer(SPRING, 2, 6);
        due("13 are more than twelve times 1", x.buy(6), 2);
        x = Answers.on("part 1;head 2;pond 3");
        x.come(0, 1, 1);
        x.come(0, 0, 1);
        x.offer(SPRING, 1, 9);
        due("in STEP 0 too: a pint", x.buy(9), 1);
        x = Answers.on("part 1;head 2;pond 9;spring 2 s<12");
        x.come(11, 1, 4);
        x.offer(SPRING, 20, 9);
        due("the pond is full by then", x.buy(9), 0);
        x.come(10, 1, 4);
        due("but once more with a SPRING of 7", x.buy(9), 1);
    }

    private static void fourThings() {
        Answers.sentence("4 at most: the sets are bits 0 .. 15");
        CliffCars x = Answers.on("part 1;head 2;tank 0;seats 1;pond 1");
        x.come(0, 1, 6);
        x.offer(POND, 4, 99);
        x.offer(TANK, 5, 99);
        x.offer(SEATS, 1, 99);
        x.offer(SPRING, 1, 99);
        due("all four", x.buy(396), 15);
        due("all but the seats", x.buy(395), 11);
        due("water alone", x.buy(99), 8);
        due("pond and water", x.buy(198), 9);
        due("none", x.buy(98), 0);
    }
}
