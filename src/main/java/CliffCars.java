/** Two cars on one rope over a wheel; the numbers behind "Promise" are those of ../shared/DOC.md. */
public final class CliffCars {
    public static final int NONE = -1, BAD = -2, STATE = -3, FULL = -4;
    public static final long NO = Long.MIN_VALUE;

    private static final int NOT_ANY = -5;
    private static final int NOTHING = -11, CAST = -12, PLACE = -13, SIZE = -14;
    private static final int CANNOT_BE = -99999;

    private static final int STEPS = 12;
    private static final int SIDES = 2;
    private static final int WEATHERS = 2;
    private static final int MOST_WAITING = 8;
    private static final int MOST_COMING = 6;
    private static final int MOST_PINTS = 99;
    private static final int MOST_TANK = 60, MOST_SEATS = 6, MOST_POND = 40;
    private static final int MOST_BYTES = 100;
    private static final int MOST_CLIFFS = 4;
    private static final int MOST_PARTS = 5;
    private static final int MOST_CLAUSES = 12;
    private static final int MOST_WITHIN = 4;
    private static final int MOST_RULES = 12;
    private static final int MOST_V = 20;
    private static final int MOST_BELL = 11;
    private static final int MOST_CROWD = 6;
    private static final int MOST_OFFERS = 4, MOST_THING = 20, MOST_PRICE = 99, MOST_PURSE = 999;
    private static final int MOST_MORE_DRAG = 99;
    private static final int TAPES = 6, MOST_ITEMS = 60;
    private static final int MOST_TRACED = 20;

    /** What TOO FAST and a row's end add to the number that they tell. */
    private static final int BEYOND = 100;
    /** Where the numbers of a day's STEPS and of a cliff's PARTS begin in "what". */
    private static final int EACH = 10;
    private static final int WORTH_OF_HEAD = 100;

    private static final int KIND_RULE = 0, KIND_FULL = 1, KIND_BELL = 2, KIND_THRIFT = 3,
        KIND_BEST = 4, KIND_SPARE = 5, KIND_TOLD = 6;

    private static final int BYTES = 0, SHORTS = 1, INTS = 2, LONGS = 3, BOOLEANS = 4;

    private static final int WORD_PART = 0, WORD_ROPE = 1, WORD_HEAD = 2, WORD_DRAG = 3, WORD_BRAKE = 4,
        WORD_TANK = 5, WORD_SEATS = 6, WORD_SPRING = 7, WORD_POND = 8, WORDS = 9;

    private final int[] text = new int[MOST_BYTES];
    private int textLength;
    private final Cliff[] cliffs = new Cliff[MOST_CLIFFS];
    private int cliffCount;
    private final Rule[] rules = new Rule[MOST_RULES];
    private int ruleCount;
    private final Setting now = new Setting();
    private final Setting kept = new Setting();
    private boolean hasImage;
    private final Tape[] tapes = new Tape[TAPES];
    private final Trace latest = new Trace();
    private final Rule best = new Rule(KIND_BEST, 0, 0);
    private final Terms terms = new Terms();
    private final Plan plan = new Plan(terms);
    private final Day run = new Day(terms, plan);

    /** Promise 1. */
    public CliffCars() {
        for (int k = 0; k < TAPES; k++) {
            tapes[k] = new Tape();
        }
    }

    // ---- cliffs

    /** Promise 2. */
    public int feed(int bytes, int n) {
        if (n < 0 || n > 4) {
            return BAD;
        }
        if (textLength + n > MOST_BYTES) {
            return FULL;
        }
        for (int k = n - 1; k >= 0; k--) {
            text[textLength] = (bytes >>> (8 * k)) & 255;
            textLength++;
        }
        return textLength;
    }

    /** Promise 3. */
    public int cliff() {
        if (cliffCount >= MOST_CLIFFS) {
            return FULL;
        }
        Cliff made = new Cliff();
        int fault = new ClauseReader(text, textLength).clausesOf(made);
        textLength = 0;
        if (fault >= 0) {
            return -10 - fault;
        }
        cliffs[cliffCount] = made;
        cliffCount++;
        moveTo(cliffCount - 1, made);
        return cliffCount - 1;
    }

    /** Promise 4. */
    public int choose(int cliff) {
        if (cliff < 0 || cliff >= cliffCount) {
            return NONE;
        }
        int was = now.cliffNumber;
        moveTo(cliff, cliffs[cliff]);
        return was;
    }

    /** Promise 5. */
    public int of(int what) {
        Cliff here = theCliff();
        if (here == null) {
            return NONE;
        }
        if (what >= EACH && what < EACH + here.partCount) {
            return here.parts[what - EACH];
        }
        switch (what) {
            case 0: return here.partCount;
            case 1: return here.rope;
            case 2: return here.head;
            case 3: return here.brake;
            case 4: return here.tank;
            case 5: return here.seats;
            case 6: return here.pondMost;
            default: return NONE;
        }
    }

    /** Promise 6. */
    public int told(int what, int step) {
        Cliff here = theCliff();
        if (here == null || isNoStep(step) || what < 0 || what > 1) {
            return NONE;
        }
        int moment = now.momentOf(step);
        return what == 0 ? here.drags[moment] : here.springs[moment];
    }

    // ---- loads

    /** Promise 7. */
    public long pull(int part, int step, int d, int u, int w) {
        Cliff here = theCliff();
        if (here == null || part < 0 || part >= here.partCount || isNoStep(step)) {
            return NO;
        }
        if (areNoHeads(d) || areNoHeads(u) || areNoPints(w)) {
            return NO;
        }
        return here.pullAt(part, here.head * (d - u) + w, here.drags[now.momentOf(step)]);
    }

    /** Promise 8. */
    public int stops(int step, int d, int u, int w) {
        Cliff here = theCliff();
        if (here == null || isNoStep(step)) {
            return NONE;
        }
        if (areNoHeads(d) || areNoHeads(u) || areNoPints(w)) {
            return BAD;
        }
        return here.stopOf(here.head * (d - u) + w, here.drags[now.momentOf(step)]);
    }

    /** Promise 9. */
    public int least(int step, int d, int u) {
        Cliff here = theCliff();
        if (here == null || isNoStep(step)) {
            return NONE;
        }
        if (areNoHeads(d) || areNoHeads(u)) {
            return BAD;
        }
        return here.leastWater(d - u, here.drags[now.momentOf(step)], here.tank);
    }

    /** Promise 10. */
    public int jump(int step, int d, int u) {
        Cliff here = theCliff();
        if (here == null || isNoStep(step)) {
            return NONE;
        }
        if (areNoHeads(d) || areNoHeads(u)) {
            return BAD;
        }
        int drag = here.drags[now.momentOf(step)];
        int water = here.leastWater(d - u, drag, here.tank);
        for (int more = 1; more <= MOST_MORE_DRAG; more++) {
            if (here.leastWater(d - u, drag + more, here.tank) != water) {
                return more;
            }
        }
        return 0;
    }

    // ---- days

    /** Promise 11. */
    public int come(int step, int side, int n) {
        if (isNoStep(step) || side < 0 || side >= SIDES) {
            return NONE;
        }
        if (n < 0 || n > MOST_COMING) {
            return BAD;
        }
        int place = side * STEPS + step;
        int was = now.comings[place];
        now.comings[place] = n;
        return was;
    }

    /** Promise 12. */
    public int wet(boolean so) {
        int was = now.isWet ? 1 : 0;
        now.isWet = so;
        return was;
    }

    /** Promise 13. */
    public int pond(int n) {
        Cliff here = theCliff();
        int most = here == null ? 0 : here.pondMost;
        if (n < 0 || n > most) {
            return BAD;
        }
        int was = now.pints;
        now.pints = n;
        return was;
    }

    /** Promise 14. */
    public int rule(int kind, int v) {
        if (isNoKind(kind)) {
            return NONE;
        }
        if (v < 0 || v > MOST_V) {
            return BAD;
        }
        if (ruleCount >= MOST_RULES) {
            return FULL;
        }
        rules[ruleCount] = new Rule(kind, v, ruleCount);
        ruleCount++;
        return ruleCount - 1;
    }

    /** Promise 15. */
    public int row(int rule, int n) {
        Rule told = ruleAt(rule);
        if (told == null) {
            return NONE;
        }
        if (n < 0 || n > 1) {
            return BAD;
        }
        if (told.kind != KIND_TOLD) {
            return STATE;
        }
        return told.hear(n) ? told.heard : FULL;
    }

    /** Promise 16. */
    public int day(int rule, int what) {
        Rule leader = ruleAt(rule);
        Cliff here = theCliff();
        if (leader == null || here == null || what < 0 || what > 5 && what < EACH || what >= EACH + STEPS) {
            return NONE;
        }
        terms.setTo(here, now);
        run.leadBy(leader, now.pints);
        switch (what) {
            case 0: return run.ups;
            case 1: return run.downs;
            case 2: return run.waited;
            case 3: return run.lost;
            case 4: return run.pond;
            case 5: return run.trips;
            default: return run.pintsOf[what - EACH];
        }
    }

    // ---- what is best

    /** Promise 17. */
    public long waits(int step, int pond, int above, int below, int what) {
        Cliff here = theCliff();
        if (here == null || isNoStep(step) || pond < 0 || pond > here.pondMost) {
            return NO;
        }
        if (isNoCrowd(above) || isNoCrowd(below) || what < 0 || what > 1) {
            return NO;
        }
        terms.setTo(here, now);
        plan.begin(0);
        return what == 0 ? Plan.worthFrom(plan, step, pond, above, below) : plan.gainOfTrip(step, pond, above, below);
    }

    /** Promise 18. */
    public int bell() {
        Cliff here = theCliff();
        if (here == null) {
            return NONE;
        }
        terms.setTo(here, now);
        int found = NONE;
        int most = 0;
        for (int v = 0; v <= MOST_BELL; v++) {
            run.leadBy(new Rule(KIND_BELL, v, 0), now.pints);
            if (found == NONE || run.worth() > most) {
                found = v;
                most = run.worth();
            }
        }
        return found;
    }

    /** Promise 19. */
    public int whit() {
        Cliff here = theCliff();
        if (here == null) {
            return NONE;
        }
        for (int times = 1; times <= MOST_CROWD; times++) {
            terms.setTo(here, now);
            terms.crowdBelow(times);
            run.leadBy(best, now.pints);
            if (run.below > 0) {
                return times;
            }
        }
        return NOT_ANY;
    }

    /** Promise 20. */
    public int offer(int sort, int size, int price) {
        if (sort < 0 || sort > 3) {
            return NONE;
        }
        if (size < 1 || size > MOST_THING || price < 0 || price > MOST_PRICE) {
            return BAD;
        }
        if (now.offers >= MOST_OFFERS) {
            return FULL;
        }
        now.sorts[now.offers] = sort;
        now.sizes[now.offers] = size;
        now.prices[now.offers] = price;
        now.offers++;
        return now.offers - 1;
    }

    /** Promise 21. */
    public int buy(int purse) {
        Cliff here = theCliff();
        if (here == null) {
            return NONE;
        }
        if (purse < 0 || purse > MOST_PURSE) {
            return BAD;
        }
        int found = NONE;
        int most = 0;
        int cheapest = 0;
        for (int set = 0; set < 1 << now.offers; set++) {
            int price = now.priceOf(set);
            if (price > purse) {
                continue;
            }
            int worth = worthWith(here, set);
            if (found == NONE || worth > most || worth == most && price < cheapest) {
                found = set;
                most = worth;
                cheapest = price;
            }
        }
        return found;
    }

    // ---- judging, the image, acts, tapes

    /** Promise 22. */
    public int judge(int tape, int i) {
        Cliff here = theCliff();
        if (isNoTape(tape) || here == null) {
            return NONE;
        }
        Tape row = tapes[tape];
        if (!row.isEmpty() && row.sort != INTS) {
            return CAST;
        }
        terms.setTo(here, now);
        return run.faultOf(row, i, now.pints);
    }

    /** Promise 23. */
    public int image() {
        kept.becomeLike(now);
        hasImage = true;
        return now.pints;
    }

    /** Promise 24. */
    public int undo() {
        if (!hasImage) {
            return STATE;
        }
        now.becomeLike(kept);
        return now.pints;
    }

    /** Promise 25. */
    public int act(int rule, int act, int x) {
        latest.ran = 0;
        Rule actor = ruleAt(rule);
        if (actor == null) {
            return 0;
        }
        switch (act) {
            case 0: return Rule.goes(actor, actor.kind, x, latest);
            case 1: return Rule.holds(actor, actor.kind, x, latest);
            case 2: return Rule.tells(actor, actor.kind, x, latest);
            default: return 0;
        }
    }

    /** Promise 26. */
    public int trace(int i) {
        return i < 0 || i >= latest.ran || i >= MOST_TRACED ? NONE : latest.bodies[i];
    }

    /** Promise 27. */
    public int taken(int rule, int k) {
        if (isNoKind(k)) {
            return BAD;
        }
        Rule one = ruleAt(rule);
        if (one == null) {
            return NOTHING;
        }
        return one.isUnder(k) ? one.kind : CAST;
    }

    /** Promise 28. */
    public int count(int what) {
        switch (what) {
            case 0: return cliffCount;
            case 1: return ruleCount;
            case 2: return now.offers;
            case 3: return textLength;
            case 4: return now.cliffNumber;
            case 5: return latest.ran;
            default: return BAD;
        }
    }

    /** Promise 29. */
    public int tape(int tape, int sort, int n) {
        if (isNoTape(tape)) {
            return NONE;
        }
        if (sort == Tape.NO_SORT) {
            tapes[tape].hold(sort, 0);
            return 1;
        }
        if (sort < BYTES || sort > BOOLEANS || n > MOST_ITEMS) {
            return BAD;
        }
        if (n < 0) {
            return SIZE;
        }
        tapes[tape].hold(sort, n);
        return 1;
    }

    /** Promise 30. */
    public int item(int tape, int i, long v) {
        if (isNoTape(tape)) {
            return NONE;
        }
        Tape row = tapes[tape];
        if (row.isEmpty()) {
            return NOTHING;
        }
        if (!row.reaches(i)) {
            return PLACE;
        }
        row.items[i] = row.lowestOf(v);
        return 1;
    }

    /** Promise 31. */
    public long read(int tape, int i) {
        if (isNoTape(tape) || !tapes[tape].reaches(i)) {
            return NO;
        }
        return tapes[tape].items[i];
    }

    /** Promise 32. */
    public int shift(int tape, int i, int other, int j, int n) {
        if (isNoTape(tape) || isNoTape(other)) {
            return NONE;
        }
        Tape from = tapes[tape];
        Tape to = tapes[other];
        if (from.isEmpty() || to.isEmpty()) {
            return NOTHING;
        }
        if (from.sort != to.sort) {
            return CAST;
        }
        if (!from.hasStretch(i, n) || !to.hasStretch(j, n)) {
            return PLACE;
        }
        System.arraycopy(from.items, i, to.items, j, n);
        return n;
    }

    // ---- what the calls share

    private Cliff theCliff() {
        int number = now.cliffNumber;
        return number < 0 || number >= cliffCount ? null : cliffs[number];
    }

    private void moveTo(int number, Cliff cliff) {
        now.cliffNumber = number;
        now.pints = Math.min(now.pints, cliff.pondMost);
    }

    private Rule ruleAt(int number) {
        return number < 0 || number >= ruleCount ? null : rules[number];
    }

    /** WORTH of a DAY by BEST with a set of things bought. */
    private int worthWith(Cliff here, int set) {
        terms.setTo(here, now);
        for (int k = 0; k < now.offers; k++) {
            if ((set >> k & 1) == 1) {
                terms.add(now.sorts[k], now.sizes[k]);
            }
        }
        plan.begin(0);
        return Plan.worthFrom(plan, 0, now.pints, 0, 0);
    }

    private static boolean isNoStep(int step) {
        return step < 0 || step >= STEPS;
    }

    private static boolean areNoHeads(int n) {
        return n < 0 || n > MOST_SEATS;
    }

    private static boolean areNoPints(int n) {
        return n < 0 || n > MOST_PINTS;
    }

    private static boolean isNoCrowd(int n) {
        return n < 0 || n > MOST_WAITING;
    }

    private static boolean isNoKind(int kind) {
        return kind < KIND_RULE || kind > KIND_TOLD;
    }

    private static boolean isNoTape(int tape) {
        return tape < 0 || tape >= TAPES;
    }

    /** What THE IMAGE keeps of an object. */
    private static final class Setting {
        final int[] comings = new int[SIDES * STEPS];
        boolean isWet;
        int pints;
        int cliffNumber = NOT_ANY;
        final int[] sorts = new int[MOST_OFFERS];
        final int[] sizes = new int[MOST_OFFERS];
        final int[] prices = new int[MOST_OFFERS];
        int offers;

        void becomeLike(Setting other) {
            System.arraycopy(other.comings, 0, comings, 0, comings.length);
            isWet = other.isWet;
            pints = other.pints;
            cliffNumber = other.cliffNumber;
            System.arraycopy(other.sorts, 0, sorts, 0, MOST_OFFERS);
            System.arraycopy(other.sizes, 0, sizes, 0, MOST_OFFERS);
            System.arraycopy(other.prices, 0, prices, 0, MOST_OFFERS);
            offers = other.offers;
        }

        /** Where a cliff's rows hold what is so in a STEP: the dry STEPS stand ahead of the wet ones. */
        int momentOf(int step) {
            return isWet ? STEPS + step : step;
        }

        int priceOf(int set) {
            int sum = 0;
            for (int k = 0; k < offers; k++) {
                sum += (set >> k & 1) * prices[k];
            }
            return sum;
        }
    }

    /** A CLIFF; the answers of its E's are worked out for every STEP, dry and wet, while it is read. */
    private static final class Cliff {
        final int[] parts = new int[MOST_PARTS];
        int partCount;
        int rope;
        int head = 10;
        int brake = 999;
        int tank = 20;
        int seats = 4;
        int pondMost = 20;
        final int[] drags = new int[WEATHERS * STEPS];
        final int[] springs = new int[WEATHERS * STEPS];

        void addPart(int n) {
            if (partCount < MOST_PARTS) {
                parts[partCount] = n;
                partCount++;
            }
        }

        void take(int word, int n) {
            switch (word) {
                case WORD_PART: addPart(n); break;
                case WORD_ROPE: rope = n; break;
                case WORD_HEAD: head = n; break;
                case WORD_BRAKE: brake = n; break;
                case WORD_TANK: tank = Math.min(n, MOST_TANK); break;
                case WORD_SEATS: seats = Math.min(n, MOST_SEATS); break;
                case WORD_POND: pondMost = Math.min(n, MOST_POND); break;
                default: break;
            }
        }

        static void addIn(int[] sums, int moments, int n) {
            for (int k = 0; k < sums.length; k++) {
                sums[k] += (moments >> k & 1) * n;
            }
        }

        int pullAt(int k, int load, int drag) {
            return parts[k] * load + rope * (2 * k - partCount + 1) - drag;
        }

        int stopOf(int load, int drag) {
            for (int k = 0; k < partCount; k++) {
                int pull = pullAt(k, load, drag);
                if (pull <= 0) {
                    return k;
                }
                if (pull > brake) {
                    return BEYOND + k;
                }
            }
            return NOT_ANY;
        }

        /** Each PULL grows evenly with the water, so each PART sets a lowest and a highest amount. */
        int leastWater(int headsMoreDown, int drag, int tankHere) {
            int low = 0;
            int high = tankHere;
            for (int k = 0; k < partCount; k++) {
                int dry = pullAt(k, head * headsMoreDown, drag);
                int byPint = parts[k];
                if (byPint > 0) {
                    low = Math.max(low, -Math.floorDiv(dry - 1, byPint));
                    high = Math.min(high, Math.floorDiv(brake - dry, byPint));
                } else if (dry <= 0 || dry > brake) {
                    return NOT_ANY;
                }
            }
            return low <= high ? low : NOT_ANY;
        }
    }

    /** Reads THE TEXT from the left on; behind its FAULT there is nothing more for it, so that all its loops end. */
    private static final class ClauseReader {
        private static final int END = -1;
        private static final int EVERY_MOMENT = (1 << WEATHERS * STEPS) - 1;

        private final int[] bytes;
        private final int length;
        private int at;
        private int fault = -1;

        ClauseReader(int[] bytes, int length) {
            this.bytes = bytes;
            this.length = Math.min(length, bytes.length);
        }

        /** The FAULT, or a number below 0. */
        int clausesOf(Cliff cliff) {
            clause(cliff);
            for (int n = 1; n < MOST_CLAUSES && peek() == ';'; n++) {
                at++;
                clause(cliff);
            }
            if (at < length) {
                fail();
            }
            if (cliff.partCount == 0) {
                cliff.addPart(5);
            }
            return fault;
        }

        private void clause(Cliff cliff) {
            int word = word();
            takeOneOf(' ', ' ', ' ');
            int n = number(3);
            if (word == WORD_DRAG || word == WORD_SPRING) {
                takeOneOf(' ', ' ', ' ');
                Cliff.addIn(word == WORD_DRAG ? cliff.drags : cliff.springs, either(0), n);
            } else {
                cliff.take(word, n);
            }
        }

        /** No word begins another one, so the first that stands there is the one. */
        private int word() {
            int furthest = 0;
            for (int k = 0; k < WORDS; k++) {
                String word = wordOf(k);
                int same = 0;
                while (same < word.length() && at + same < length && bytes[at + same] == word.charAt(same)) {
                    same++;
                }
                if (same == word.length()) {
                    at += same;
                    return k;
                }
                furthest = Math.max(furthest, same);
            }
            at += furthest;
            fail();
            return END;
        }

        private static String wordOf(int word) {
            switch (word) {
                case WORD_PART: return "part";
                case WORD_ROPE: return "rope";
                case WORD_HEAD: return "head";
                case WORD_DRAG: return "drag";
                case WORD_BRAKE: return "brake";
                case WORD_TANK: return "tank";
                case WORD_SEATS: return "seats";
                case WORD_SPRING: return "spring";
                default: return "pond";
            }
        }

        /** E: the moments at which it holds, as bits. */
        private int either(int depth) {
            int moments = both(depth);
            while (at < length && peek() == '|') {
                at++;
                moments |= both(depth);
            }
            return moments;
        }

        private int both(int depth) {
            int moments = single(depth);
            while (at < length && peek() == '&') {
                at++;
                moments &= single(depth);
            }
            return moments;
        }

        private int single(int depth) {
            int within = depth;
            boolean turned = false;
            while (peek() == '!' && within < MOST_WITHIN) {
                at++;
                within++;
                turned = !turned;
            }
            int moments;
            if (peek() == '(' && within < MOST_WITHIN) {
                at++;
                moments = either(within + 1);
                takeOneOf(')', ')', ')');
            } else {
                int subject = takeOneOf('s', 'w', 'w');
                int relation = takeOneOf('<', '=', '>');
                moments = momentsWith(subject, relation, number(2));
            }
            return turned ? EVERY_MOMENT & ~moments : moments;
        }

        private static int momentsWith(int subject, int relation, int n) {
            int moments = 0;
            for (int k = 0; k < WEATHERS * STEPS; k++) {
                int value = subject == 's' ? k % STEPS : k / STEPS;
                boolean holds = relation == '<' ? value < n : relation == '>' ? value > n : value == n;
                if (holds) {
                    moments |= 1 << k;
                }
            }
            return moments;
        }

        private int number(int mostDigits) {
            int value = 0;
            int digits = 0;
            while (digits < mostDigits && peek() >= '0' && peek() <= '9') {
                value = 10 * value + peek() - '0';
                at++;
                digits++;
            }
            if (digits == 0) {
                fail();
            }
            return value;
        }

        private int takeOneOf(int first, int second, int third) {
            int next = peek();
            if (next != END && (next == first || next == second || next == third)) {
                at++;
                return next;
            }
            fail();
            return END;
        }

        private int peek() {
            return fault < 0 && at >= 0 && at < length ? bytes[at] : END;
        }

        private void fail() {
            if (fault < 0) {
                fault = at;
            }
        }
    }

    /** What holds on a DAY: THE CLIFF with what is bought, the weather, and who comes. */
    private static final class Terms {
        private Cliff cliff = new Cliff();
        private int firstMoment;
        private final int[] comings = new int[SIDES * STEPS];
        private int tank;
        private int seats;
        private int pondMost;
        private int moreSpring;

        void setTo(Cliff here, Setting setting) {
            cliff = here;
            firstMoment = setting.momentOf(0);
            System.arraycopy(setting.comings, 0, comings, 0, comings.length);
            tank = here.tank;
            seats = here.seats;
            pondMost = here.pondMost;
            moreSpring = 0;
        }

        void crowdBelow(int times) {
            for (int k = STEPS; k < SIDES * STEPS; k++) {
                comings[k] = Math.min(times * comings[k], MOST_COMING);
            }
        }

        void add(int sort, int size) {
            switch (sort) {
                case 0: tank = Math.min(tank + size, MOST_TANK); break;
                case 1: seats = Math.min(seats + size, MOST_SEATS); break;
                case 2: moreSpring += size; break;
                default: pondMost = Math.min(pondMost + size, MOST_POND); break;
            }
        }

        int pondWithSpring(int step, int pond) {
            return Math.min(pond + cliff.springs[firstMoment + step] + moreSpring, pondMost);
        }

        int comingAbove(int step) {
            return comings[step];
        }

        int comingBelow(int step) {
            return comings[STEPS + step];
        }

        int seated(int waiting) {
            return Math.min(waiting, seats);
        }

        int leastFor(int step, int down, int up) {
            return cliff.leastWater(down - up, cliff.drags[firstMoment + step], tank);
        }

        boolean goesWith(int step, int down, int up, int pints) {
            return pints <= tank
                && cliff.stopOf(cliff.head * (down - up) + pints, cliff.drags[firstMoment + step]) == NOT_ANY;
        }
    }

    /** BEST, or SPARE: what the rest of a DAY is worth; few of the possible moments come up, so those alone are kept. */
    private static final class Plan {
        private static final int CROWDS = MOST_WAITING + 1;
        private static final int WORTH_BITS = 20;
        private static final int WORTH_MASK = (1 << WORTH_BITS) - 1;

        private final Terms terms;
        private int spare;
        private long edition;
        /** Of each place the WORTH, and above it the edition that it is of: so nothing need be wiped. */
        private final long[] known = new long[STEPS * (MOST_POND + 1) * CROWDS * CROWDS];

        Plan(Terms terms) {
            this.terms = terms;
        }

        void begin(int leastLeft) {
            spare = leastLeft;
            edition++;
        }

        /** WORTH from the beginning of a STEP on. */
        private static int worthFrom(Plan plan, int step, int pond, int above, int below) {
            int place = ((step * (MOST_POND + 1) + pond) * CROWDS + above) * CROWDS + below;
            if (step >= STEPS || place < 0 || place >= plan.known.length) {
                return pond;
            }
            if (plan.known[place] >> WORTH_BITS == plan.edition) {
                return (int) plan.known[place] & WORTH_MASK;
            }
            int filled = plan.terms.pondWithSpring(step, pond);
            int top = waiting(above + plan.terms.comingAbove(step));
            int foot = waiting(below + plan.terms.comingBelow(step));
            int none = worthFrom(plan, step + 1, filled, top, foot);
            int worth = Math.max(none, worthOfTrip(plan, step, filled, top, foot));
            plan.known[place] = plan.edition << WORTH_BITS | worth;
            return worth;
        }

        /** WORTH of a TRIP, and what is left behind it, in a STEP in which spring and heads have come. */
        private static int worthOfTrip(Plan plan, int step, int pond, int above, int below) {
            int down = plan.terms.seated(above);
            int up = plan.terms.seated(below);
            int water = plan.terms.leastFor(step, down, up);
            if (down + up == 0 || water == NOT_ANY || pond - water < plan.spare) {
                return CANNOT_BE;
            }
            return WORTH_OF_HEAD * up + worthFrom(plan, step + 1, pond - water, above - down, below - up);
        }

        int gainOfTrip(int step, int pond, int above, int below) {
            int filled = terms.pondWithSpring(step, pond);
            int top = waiting(above + terms.comingAbove(step));
            int foot = waiting(below + terms.comingBelow(step));
            int trip = worthOfTrip(this, step, filled, top, foot);
            return trip == CANNOT_BE ? CANNOT_BE : trip - worthFrom(this, step + 1, filled, top, foot);
        }

        private static int waiting(int heads) {
            return Math.min(heads, MOST_WAITING);
        }
    }

    /** One DAY, STEP by STEP, and what it tells behind the last one. */
    private static final class Day {
        private final Terms terms;
        private final Plan plan;
        private int step;
        private int pond;
        private int above;
        private int below;
        private int down;
        private int up;
        private int least;
        private int ups;
        private int downs;
        private int waited;
        private int lost;
        private int trips;
        private final int[] pintsOf = new int[STEPS];

        Day(Terms terms, Plan plan) {
            this.terms = terms;
            this.plan = plan;
        }

        void leadBy(Rule rule, int pints) {
            plan.begin(rule.leastLeft());
            begin(pints);
            for (int k = 0; k < STEPS; k++) {
                open(k);
                if (tripCanBe() && rule.leads(this)) {
                    makeTrip(least);
                }
                close();
            }
        }

        /** A row of told TRIPS, JUDGED from a place on. */
        int faultOf(Tape row, int first, int pints) {
            begin(pints);
            for (int k = 0; k < STEPS; k++) {
                if (first < 0 || !row.reaches((long) first + k)) {
                    return BEYOND + k;
                }
                open(k);
                int toldPints = (int) row.items[first + k];
                if (toldPints != -1) {
                    if (!tripCanBeWith(toldPints)) {
                        return k;
                    }
                    makeTrip(toldPints);
                }
                close();
            }
            return NOT_ANY;
        }

        int worth() {
            return WORTH_OF_HEAD * ups + pond;
        }

        private void begin(int pints) {
            pond = pints;
            above = 0;
            below = 0;
            ups = 0;
            downs = 0;
            waited = 0;
            lost = 0;
            trips = 0;
        }

        private void open(int k) {
            step = k;
            pintsOf[k] = NOT_ANY;
            pond = terms.pondWithSpring(k, pond);
            above += terms.comingAbove(k);
            below += terms.comingBelow(k);
            lost += Math.max(above - MOST_WAITING, 0) + Math.max(below - MOST_WAITING, 0);
            above = Math.min(above, MOST_WAITING);
            below = Math.min(below, MOST_WAITING);
            down = terms.seated(above);
            up = terms.seated(below);
        }

        private boolean tripCanBe() {
            least = terms.leastFor(step, down, up);
            return down + up > 0 && least != NOT_ANY && least <= pond;
        }

        private boolean tripCanBeWith(int pints) {
            return down + up > 0 && pints >= 0 && pints <= pond && terms.goesWith(step, down, up, pints);
        }

        private void makeTrip(int pints) {
            pintsOf[step] = pints;
            pond -= pints;
            above -= down;
            below -= up;
            downs += down;
            ups += up;
            trips++;
        }

        private void close() {
            waited += above + below;
        }

        boolean isLastStep() {
            return step == STEPS - 1;
        }
    }

    /** A RULE of any KIND: how it leads a DAY, and its ACTS. */
    private static final class Rule {
        final int kind;
        private final int v;
        private final int number;
        private final int[] row;
        private int heard;

        Rule(int kind, int v, int number) {
            this.kind = kind;
            this.v = v;
            this.number = number;
            this.row = new int[kind == KIND_TOLD ? STEPS : 0];
        }

        boolean hear(int n) {
            if (heard >= row.length) {
                return false;
            }
            row[heard] = n;
            heard++;
            return true;
        }

        boolean isUnder(int other) {
            return other == kind || other == KIND_RULE || other == KIND_BEST && kind == KIND_SPARE;
        }

        /** What no TRIP by this RULE may go below in the POND. */
        int leastLeft() {
            return kind == KIND_SPARE ? v : 0;
        }

        /** Whether a TRIP that can be is made. */
        boolean leads(Day day) {
            switch (kind) {
                case KIND_FULL: return day.below >= day.terms.seats || day.isLastStep();
                case KIND_BELL: return day.step % Math.max(v + 1, 1) == 0;
                case KIND_THRIFT: return day.least <= v * day.up || day.isLastStep();
                case KIND_BEST:
                case KIND_SPARE:
                    return Plan.worthOfTrip(day.plan, day.step, day.pond, day.above, day.below)
                        > Plan.worthFrom(day.plan, day.step + 1, day.pond, day.above, day.below);
                case KIND_TOLD: return day.step < heard && row[day.step] == 1;
                default: return true;
            }
        }

        // ACTS: "from" is the KIND at which the search for a body begins; it only goes up, so these calls end.

        private static int goes(Rule rule, int from, int x, Trace trace) {
            switch (from) {
                case KIND_BELL:
                    trace.add(30);
                    return goes(rule, KIND_RULE, x * 3, trace);
                case KIND_BEST:
                case KIND_SPARE:
                    trace.add(50);
                    return -goes(rule, KIND_RULE, x, trace);
                default:
                    trace.add(10);
                    return x + rule.number;
            }
        }

        private static int holds(Rule rule, int from, int x, Trace trace) {
            switch (from) {
                case KIND_FULL:
                    trace.add(20);
                    return holds(rule, KIND_RULE, x, trace) ^ 6;
                case KIND_SPARE:
                    trace.add(60);
                    return holds(rule, KIND_BEST, x, trace) + goes(rule, KIND_BEST, 2, trace);
                default:
                    trace.add(11);
                    return goes(rule, rule.kind, x, trace) - rule.v;
            }
        }

        private static int tells(Rule rule, int from, int x, Trace trace) {
            switch (from) {
                case KIND_THRIFT:
                    trace.add(40);
                    return tells(rule, KIND_RULE, x, trace) + holds(rule, rule.kind, 1, trace);
                case KIND_BEST:
                case KIND_SPARE:
                    trace.add(51);
                    return tells(rule, KIND_RULE, x - rule.number, trace);
                case KIND_TOLD:
                    trace.add(70);
                    return holds(rule, rule.kind, x, trace) - tells(rule, KIND_RULE, x, trace);
                default:
                    trace.add(12);
                    return holds(rule, rule.kind, x, trace) * 2;
            }
        }
    }

    /** THE TRACE of the latest act(). */
    private static final class Trace {
        final int[] bodies = new int[MOST_TRACED];
        int ran;

        void add(int body) {
            if (ran < MOST_TRACED) {
                bodies[ran] = body;
            }
            ran++;
        }
    }

    /** A TAPE; its row is made once and used again for every sort, as longs, which hold an item of each. */
    private static final class Tape {
        static final int NO_SORT = -1;

        int sort = NO_SORT;
        private int size;
        final long[] items = new long[MOST_ITEMS];

        boolean isEmpty() {
            return sort == NO_SORT;
        }

        void hold(int newSort, int newSize) {
            sort = newSort;
            size = Math.min(newSize, MOST_ITEMS);
            for (int k = 0; k < MOST_ITEMS; k++) {
                items[k] = 0;
            }
        }

        boolean reaches(long i) {
            return i >= 0 && i < size;
        }

        boolean hasStretch(int i, int n) {
            return i >= 0 && n >= 0 && (long) i + n <= size;
        }

        long lowestOf(long v) {
            switch (sort) {
                case BYTES: return (byte) v;
                case SHORTS: return (short) v;
                case INTS: return (int) v;
                case LONGS: return v;
                default: return v != 0 ? 1 : 0;
            }
        }
    }
}
