/** The edges of "Terms" 1 that a text of a CLIFF can show, and of promises 1 to 6. */
public final class TextEdges {
    private static final int NONE = Answers.NONE, BAD = Answers.BAD, FULL = Answers.FULL, NOT_ANY = Answers.NOT_ANY;
    private static final int FAR = Answers.FAR, FAR_BELOW = Answers.FAR_BELOW;

    private static final String[] WORDS = {"part", "rope", "head", "drag", "brake", "tank", "seats", "spring", "pond"};

    public static void main(String[] args) {
        newObject();
        bytesOfANumber();
        hundredBytes();
        emptyThen();
        nothingOfAnEarlierText();
        clausesAndBlanks();
        wordsOfClauses();
        digitsOfClauses();
        everyPlaceOfAText();
        tests();
        numbersOfTests();
        partsOfE();
        withinFour();
        withinFourSideBySide();
        cliffNumbers();
        parts();
        lastClauseCounts();
        theCliffsPond();
        choosing();
        figures();
        together();
        Answers.end();
    }

    private static void due(String what, long got, long want) {
        Answers.due(what, got, want);
    }

    private static void right(String text) {
        due("cliff() of " + text, Answers.read(new CliffCars(), text), 0);
    }

    private static CliffCars faulty = new CliffCars();
    private static int callsOfFaulty = 0;

    /** A fault leaves no CLIFF behind, so one object bears many of them, in its 512 calls. */
    private static void fault(String text, int place) {
        if (callsOfFaulty + text.length() + 1 > 512) {
            faulty = new CliffCars();
            callsOfFaulty = 0;
        }
        callsOfFaulty += text.length() + 1;
        due("fault of " + text, Answers.read(faulty, text), -10 - place);
    }

    private static String times(int n, String s) {
        StringBuilder t = new StringBuilder();
        for (int k = 0; k < n; k++) {
            t.append(s);
        }
        return t.toString();
    }

    private static void newObject() {
        Answers.sentence("No CLIFF, no RULES");
        CliffCars x = new CliffCars();
        for (int k = 0; k < 4; k++) {
            due("count(" + k + ")", x.count(k), 0);
        }
        due("THE CLIFF", x.count(4), NOT_ANY);
        due("bodies", x.count(5), 0);
        due("a body", x.trace(0), NONE);
        due("a RULE", x.taken(0, 0), Answers.NOTHING);
        due("a day", x.day(0, 0), NONE);
        due("the first CLIFF", x.choose(0), NONE);
        due("THE IMAGE", x.undo(), Answers.STATE);
        due("WET", x.wet(false), 0);
        due("POND", x.pond(0), 0);
        for (int k = 0; k < 12; k++) {
            due("ABOVE in " + k, x.come(k, 0, 0), 0);
            due("BELOW in " + k, x.come(k, 1, 0), 0);
        }
        for (int k = 0; k < 6; k++) {
            due("item of tape " + k, x.item(k, 0, 1), Answers.NOTHING);
            due("tape " + k, x.read(k, 0), Answers.NO);
        }
        CliffCars other = new CliffCars();
        Answers.read(x, "part 2");
        x.rule(0, 0);
        due("another object's CLIFFS", other.count(0), 0);
        due("another object's RULES", other.count(1), 0);
    }

    private static void bytesOfANumber() {
        Answers.sentence("The n lowest bytes of a number, the highest first (n 0 .. 4)");
        CliffCars x = new CliffCars();
        due("n of -1", x.feed('p', -1), BAD);
        due("n of 5", x.feed('p', 5), BAD);
        due("n of -2", x.feed('p', -2), BAD);
        due("n of 2147483647", x.feed('p', FAR), BAD);
        due("n of -2147483648", x.feed('p', FAR_BELOW), BAD);
        due("none of it came", x.count(3), 0);
        due("n of 0", x.feed('x', 0), 0);
        due("n of 1, of a number with more", x.feed(0x7f7f7f00 | 'p', 1), 1);
        due("n of 2, of a number below 0", x.feed(0xffff0000 | 'a' << 8 | 'r', 2), 3);
        due("n of 3", x.feed(0x80000000 | 't' << 16 | ' ' << 8 | '8', 3), 6);
        due("n of 4", x.feed(';' << 24 | 'p' << 16 | 'a' << 8 | 'r', 4), 10);
        due("n of 4 again", x.feed('t' << 24 | ' ' << 16 | '9' << 8 | '1', 4), 14);
        due("it is a CLIFF", x.cliff(), 0);
        due("its first PART", x.of(10), 8);
        due("its second PART", x.of(11), 91);
        Answers.sentence("bytes");
        int[] strange = {0, 1, 31, 127, 128, 200, 255};
        for (int b : strange) {
            x.feed('p', 1);
            x.feed(b, 1);
            due("fault at byte " + b, x.cliff(), -11);
        }
        x.feed(0x70 + 0x100, 1);
        x.feed(0xffffff00 | 'o', 1);
        due("only the lowest byte counts", x.cliff(), -12);
    }

    /** 99 bytes: drag in STEP 10 or 1; a last number of one digit may come behind. */
    private static String long99() {
        return "drag 1 s=10" + times(22, "|s=1");
    }

    private static void hundredBytes() {
        Answers.sentence("100 at most; FULL");
        CliffCars x = new CliffCars();
        for (int k = 1; k <= 24; k++) {
            due("four bytes", x.feed(0x20202020, 4), 4 * k);
        }
        due("to 97", x.feed(' ', 1), 97);
        due("4 more are too many", x.feed(0x20202020, 4), FULL);
        due("how many stay", x.count(3), 97);
        due("to 99", x.feed(0x2020, 2), 99);
        due("2 more are too many", x.feed(0x2020, 2), FULL);
        due("3 more are too many", x.feed(0x202020, 3), FULL);
        due("4 more are too many", x.feed(0x20202020, 4), FULL);
        due("n of 5 is BAD first", x.feed(0x20202020, 5), BAD);
        due("none at 99", x.feed(0x20202020, 0), 99);
        due("the 100th", x.feed(' ', 1), 100);
        due("the 101st", x.feed(' ', 1), FULL);
        due("4 more are too many", x.feed(' ', 4), FULL);
        due("none at 100", x.feed(' ', 0), 100);
        due("n of -1 is BAD", x.feed(' ', -1), BAD);
        due("how many", x.count(3), 100);

        Answers.sentence("what is answered so changes nothing: THE TEXT at FULL");
        x = new CliffCars();
        Answers.feed(x, long99());
        due("99 bytes", x.count(3), 99);
        due("two are too many", x.feed('3' << 8 | '4', 2), FULL);
        due("the first digit's second one", x.feed('1', 1), 100);
        due("one is too many", x.feed('1', 1), FULL);
        due("100 bytes are a CLIFF", x.cliff(), 0);
        due("the last byte counts: s=11", x.told(0, 11), 1);
        due("in STEP 1, by the others", x.told(0, 1), 1);
        due("in STEP 10, by the first", x.told(0, 10), 1);
        due("in no other", x.told(0, 2), 0);

        Answers.sentence("the end of THE TEXT, if it ends too early");
        fault(long99() + "|", 100);
        right(long99());
        right("drag 1 s=10|s=11" + times(21, "|s=1"));
        fault("drag 1 s=10|s=11" + times(20, "|s=1") + "|s=(", 99);
        fault(long99() + ";", 100);
        fault(long99() + "x", 99);
    }

    private static void emptyThen() {
        Answers.sentence("THE TEXT, which is empty then");
        CliffCars x = new CliffCars();
        due("the empty text ends too early", x.cliff(), -10);
        Answers.read(x, "part 3");
        due("behind a CLIFF", x.count(3), 0);
        due("empty again", x.cliff(), -10);
        Answers.read(x, "part 3;");
        due("behind a fault", x.count(3), 0);
        due("empty again", x.cliff(), -10);
        due("a fault is no CLIFF", x.count(0), 1);
        due("100 bytes again", Answers.read(x, long99()), 1);
        Answers.feed(x, "part 3;part 4");
        due("a fault behind 100 bytes is gone", x.cliff(), 2);
        due("its PARTS", x.of(0), 2);
    }

    private static void nothingOfAnEarlierText() {
        Answers.sentence("THE TEXT, which is empty then: nothing of it comes behind a later one");
        CliffCars x = Answers.on("part 12");
        due("a shorter one", Answers.read(x, "part 1"), 1);
        due("one digit", x.of(10), 1);
        due("a longer number, faulty", Answers.read(x, "drag 1 s<115"), -21);
        due("a shorter one", Answers.read(x, "drag 1 s<1"), 2);
        due("STEP 0", x.told(0, 0), 1);
        due("not STEP 1", x.told(0, 1), 0);
        due("a right one", Answers.read(x, "rope 12;rope 3"), 3);
        x = Answers.on("rope 1;rope 2;drag 1 s=1|s=2");
        String[] texts = {"rop", "rope", "rope ", "rope 1;", "rope 1;rop", "rope 1;rope 2;drag 1", "rope 1;rope 2;drag 1 s",
            "rope 1;rope 2;drag 1 s=", "rope 1;rope 2;drag 1 s=1|", "rope 1;rope 2;drag 1 s=1|s", ""};
        for (String text : texts) {
            due("fault of " + text, Answers.read(x, text), -10 - text.length());
            due("a whole one", Answers.read(x, "rope 1;rope 2;drag 1 s=1|s=2x"), -38);
        }
        due("one alone", Answers.read(x, "rope 1"), 1);
        due("one alone", x.of(1), 1);
        due("one TEST alone", Answers.read(x, "rope 1;rope 2;drag 1 s=1"), 2);
        due("one TEST alone", x.told(0, 2), 0);
    }

    private static void clausesAndBlanks() {
        Answers.sentence("CLAUSES, 1 to 12, with ; between");
        fault("", 0);
        fault(";", 0);
        right("rope 1");
        fault("rope 1;", 7);
        fault(";rope 1", 0);
        fault("rope 1;;rope 1", 7);
        fault("rope 1,rope 1", 6);
        fault("rope 1 rope 1", 6);
        String eleven = times(10, "rope 1;") + "rope 2";
        right(eleven);
        CliffCars x = Answers.on(eleven + ";rope 7");
        due("the twelfth counts", x.of(1), 7);
        fault(eleven + ";rope 7;", 83);
        fault(eleven + ";rope 7;rope 8", 83);
        fault(eleven + ";rope 7;x", 83);
        fault(eleven + ";rope 7x", 83);
        fault(eleven + ";", 77);
        x = Answers.on(times(11, "part 4;") + "part 4");
        due("twelve PARTS are a CLIFF, too", x.of(0), 5);
        fault(times(12, "part 4;") + "part 4", 83);

        Answers.sentence("one blank ahead of each part behind the word");
        fault("rope1", 4);
        fault("rope  1", 5);
        fault("rope\t1", 4);
        fault("rope 1 ", 6);
        fault(" rope 1", 0);
        fault("rope 1; rope 2", 7);
        fault("rope 1 ;rope 2", 6);
        fault("drag1 s=1", 4);
        fault("drag 1s=1", 6);
        fault("drag 1  s=1", 7);
        fault("drag  1 s=1", 5);
        fault("drag 1 s=1 ", 10);
        fault("drag 1 s =1", 8);
        fault("drag 1 s= 1", 9);
        fault("drag 1 s=1 |s=2", 10);
        fault("drag 1 s=1| s=2", 11);
        fault("drag 1 s=1& s=2", 11);
        fault("drag 1 ! s=1", 8);
        fault("drag 1 ( s=1)", 8);
        fault("drag 1 (s=1 )", 11);
        fault("spring1 s=1", 6);
        fault("spring 1s=1", 8);
        fault("spring 1 s=1 ", 12);

        Answers.sentence("drag n E; spring n E; the others n alone");
        fault("drag 1", 6);
        fault("drag 1;rope 1", 6);
        fault("drag 1 ", 7);
        fault("drag 1 ;", 7);
        fault("spring 1", 8);
        fault("spring 1;", 8);
        for (String word : WORDS) {
            if (!hasE(word)) {
                fault(word + " 1 s=1", word.length() + 2);
            }
        }
    }

    private static boolean hasE(String word) {
        return word.equals("drag") || word.equals("spring");
    }

    private static String behind(String word) {
        return hasE(word) ? " s=1" : "";
    }

    private static boolean beginsAWord(String begin) {
        for (String word : WORDS) {
            if (word.startsWith(begin)) {
                return true;
            }
        }
        return false;
    }

    private static void wordsOfClauses() {
        Answers.sentence("part, rope, head, drag, brake, tank, seats, spring, pond");
        for (String word : WORDS) {
            right(word + " 1" + behind(word));
            right("rope 1;" + word + " 1" + behind(word));
            for (int k = 0; k < word.length(); k++) {
                String begin = word.substring(0, k);
                fault(begin, k);
                fault("rope 1;" + begin, 7 + k);
                for (char c = 0; c < 256; c++) {
                    if (!beginsAWord(begin + c)) {
                        fault(begin + c + " 1" + behind(word), k);
                    }
                }
            }
            fault(word, word.length());
            fault(word + "s 1" + behind(word), word.length());
            fault(word + ";", word.length());
        }
    }

    private static void digitsOfClauses() {
        Answers.sentence("n 1 to 3 digits");
        for (String word : WORDS) {
            String e = behind(word);
            int first = word.length() + 1;
            fault(word + " " + e, first);
            fault(word + " x" + e, first);
            fault(word + " -1" + e, first);
            fault(word + " +1" + e, first);
            right(word + " 0" + e);
            right(word + " 9" + e);
            right(word + " 99" + e);
            right(word + " 000" + e);
            right(word + " 999" + e);
            fault(word + " 0000" + e, first + 3);
            fault(word + " 1000" + e, first + 3);
            fault(word + " 12345" + e, first + 3);
            // the signs next to the digits
            fault(word + " /" + e, first);
            fault(word + " :" + e, first);
            fault(word + " 1/" + e, first + 1);
            fault(word + " 1:" + e, first + 1);
        }
        int[] whats = {1, 2, 3, 10};
        String[] words = {"rope", "head", "brake", "part"};
        String[] digits = {"0", "9", "10", "99", "100", "999", "007", "070", "00"};
        int[] values = {0, 9, 10, 99, 100, 999, 7, 70, 0};
        for (int k = 0; k < whats.length; k++) {
            for (int j = 0; j < digits.length; j++) {
                CliffCars x = Answers.on(words[k] + " " + digits[j]);
                due(words[k] + " " + digits[j], x.of(whats[k]), values[j]);
            }
        }
        for (int j = 0; j < digits.length; j++) {
            CliffCars x = Answers.on("drag " + digits[j] + " s=1;spring " + digits[j] + " s=2");
            due("drag " + digits[j], x.told(0, 1), values[j]);
            due("spring " + digits[j], x.told(1, 2), values[j]);
        }
    }

    /** A text of all words; behind each ^ it would be a CLIFF if it ended there. */
    private static final String MARKED = "part 4^;rope 3^;head 8^;drag 6 w=1^&!(s<2|s>9)^;brake 2^0^0^;tank 3^0^;seats 3^"
        + ";spring 6 s<9^;pond 3^5^";

    private static void everyPlaceOfAText() {
        Answers.sentence("the place of the first byte with which none begins so (the end, if it ends too early)");
        String text = MARKED.replace("^", "");
        int place = 0;
        for (int k = 0; k < MARKED.length(); k++) {
            if (MARKED.charAt(k) == '^') {
                right(text.substring(0, place));
                continue;
            }
            if (k == 0 || MARKED.charAt(k - 1) != '^') {
                fault(text.substring(0, place), place);
            }
            char c = text.charAt(place);
            for (char other : new char[] {'#', 0, 255, (char) (c + 128)}) {
                fault(text.substring(0, place) + other + text.substring(place + 1), place);
                fault(text.substring(0, place) + other, place);
            }
            fault(text.substring(0, place) + "#" + text.substring(place), place);
            fault(text.substring(0, place) + " " + text.substring(place), c == ' ' ? place + 1 : place);
            place++;
        }
        fault(text + "#", text.length());
        fault(text + ";", text.length() + 1);
    }

    /** In which STEPS an E holds, dry and wet, as texts of 0 and 1. */
    private static void holds(String e, String dry, String wet) {
        CliffCars x = Answers.on("drag 1 " + e + ";spring 2 " + e);
        for (int k = 0; k < 12; k++) {
            x.wet(false);
            due("drag by " + e + " in " + k, x.told(0, k), dry.charAt(k) - '0');
            due("spring by " + e + " in " + k, x.told(1, k), 2 * (dry.charAt(k) - '0'));
            x.wet(true);
            due("wet drag by " + e + " in " + k, x.told(0, k), wet.charAt(k) - '0');
            due("wet spring by " + e + " in " + k, x.told(1, k), 2 * (wet.charAt(k) - '0'));
        }
    }

    private static void holds(String e, String both) {
        holds(e, both, both);
    }

    private static final String ALL = "111111111111", NEVER = "000000000000";

    private static void tests() {
        Answers.sentence("a TEST: s (the STEP) or w (1 if it is WET, else 0), < or = or >, a number");
        holds("s<0", NEVER);
        holds("s=0", "100000000000");
        holds("s>0", "011111111111");
        holds("s<1", "100000000000");
        holds("s<5", "111110000000");
        holds("s=5", "000001000000");
        holds("s>5", "000000111111");
        holds("s<11", "111111111110");
        holds("s=11", "000000000001");
        holds("s>11", NEVER);
        holds("s>10", "000000000001");
        holds("s<12", ALL);
        holds("s=12", NEVER);
        holds("s>12", NEVER);
        holds("w<0", NEVER);
        holds("w=0", ALL, NEVER);
        holds("w>0", NEVER, ALL);
        holds("w<1", ALL, NEVER);
        holds("w=1", NEVER, ALL);
        holds("w>1", NEVER);
        holds("w<2", ALL);
        holds("w=2", NEVER);
        holds("w>2", NEVER);
        String[] none = {"x=1", "S=1", "W=1", "t=1", "r=1", "v=1", "1=1", "=1", "<1"};
        for (String e : none) {
            fault("drag 1 " + e, 7);
        }
        String[] unlike = {"s!1", "s;1", "s?1", "s1", "s(1", "w-1", "s"};
        for (String e : unlike) {
            fault("drag 1 " + e, 8);
        }
        String[] twice = {"s<=1", "s>=1", "s==1", "s<>1", "w=", "s=-1", "s=s", "s=;"};
        for (String e : twice) {
            fault("drag 1 " + e, 9);
        }
    }

    private static void numbersOfTests() {
        Answers.sentence("a number (1 or 2 digits)");
        holds("s<9", "111111111000");
        holds("s<09", "111111111000");
        holds("s=00", "100000000000");
        holds("s=0", "100000000000");
        holds("s=10", "000000000010");
        holds("s=01", "010000000000");
        holds("s<99", ALL);
        holds("s>99", NEVER);
        holds("s<90", ALL);
        holds("w=01", NEVER, ALL);
        fault("drag 1 s<", 9);
        fault("drag 1 s<x", 9);
        fault("drag 1 s</", 9);
        fault("drag 1 s<:", 9);
        fault("drag 1 s<1/", 10);
        fault("drag 1 s<1:", 10);
        fault("drag 1 s<100", 11);
        fault("drag 1 s<000", 11);
        fault("drag 1 (s<100)", 12);
    }

    private static void partsOfE() {
        Answers.sentence("E: T or T|E. T: F or F&T. F: !F, (E), or a TEST");
        holds("s=1|s=2&s=3", "010000000000");
        holds("s=1&s=2|s=3", "000100000000");
        holds("s=3|s=1&s=2", "000100000000");
        holds("(s=1|s=2)&s>1", "001000000000");
        holds("s>1&(s=1|s=2)", "001000000000");
        holds("!s=1&s<3", "101000000000");
        holds("s<3&!s=1", "101000000000");
        holds("!s=1|s=1", ALL);
        holds("!(s=1&s=2)", ALL);
        holds("!(s<1|s>2)", "011000000000");
        holds("!s<1|s>2", "011111111111");
        holds("!!s=1", "010000000000");
        holds("!!!s=1", "101111111111");
        holds("!w=1&s=2|w=1&s=3", "001000000000", "000100000000");
        holds("s>1&s>2&s>3&s<9&s<8&s<7", "000011100000");
        holds("s=1|s=3|s=5|s=7|s=9|s=11", "010101010101");
        holds("(((s=1)|s=2)|s=3)|s=4", "011110000000");
        holds("s>1&(s>2&(s>3&(s>4)))", "000001111111");
        fault("drag 1 |s=1", 7);
        fault("drag 1 &s=1", 7);
        fault("drag 1 s=1|", 11);
        fault("drag 1 s=1&", 11);
        fault("drag 1 s=1||s=2", 11);
        fault("drag 1 s=1&&s=2", 11);
        fault("drag 1 s=1&|s=2", 11);
        fault("drag 1 s=1|&s=2", 11);
        fault("drag 1 s=1s=2", 10);
        fault("drag 1 s=1(s=2)", 10);
        fault("drag 1 s=1!s=2", 10);
        fault("drag 1 (s=1)(s=2)", 12);
        fault("drag 1 (s=1)s=2", 12);
        fault("drag 1 s=1)", 10);
        fault("drag 1 (s=1))", 12);
        fault("drag 1 (s=1", 11);
        fault("drag 1 ((s=1)", 13);
        fault("drag 1 (", 8);
        fault("drag 1 ()", 8);
        fault("drag 1 )", 7);
        fault("drag 1 !", 8);
        fault("drag 1 !)", 8);
        fault("drag 1 !|s=1", 8);
        fault("drag 1 (s=1|)", 12);
        fault("drag 1 (s=1;rope 1)", 11);
        fault("drag 1 s!=1", 8);
    }

    private static String closing(String opening) {
        StringBuilder t = new StringBuilder();
        for (int k = 0; k < opening.length(); k++) {
            t.append(opening.charAt(k) == '(' ? ")" : "");
        }
        return t.toString();
    }

    /** A row of ( and ! told by the bits of a number. */
    private static String opening(int bits, int length) {
        StringBuilder t = new StringBuilder();
        for (int k = 0; k < length; k++) {
            t.append((bits >> k & 1) == 1 ? '!' : '(');
        }
        return t.toString();
    }

    private static void withinFour() {
        Answers.sentence("A ( or ! within 4 others is none");
        for (int length = 1; length <= 4; length++) {
            for (int bits = 0; bits < 1 << length; bits++) {
                String o = opening(bits, length);
                boolean turned = Integer.bitCount(bits) % 2 == 1;
                holds(o + "s=1" + closing(o), turned ? "101111111111" : "010000000000");
            }
        }
        for (int bits = 0; bits < 32; bits++) {
            String o = opening(bits, 5);
            fault("drag 1 " + o + "s=1" + closing(o), 11);
            fault("drag 1 s=2|" + o + "s=1" + closing(o), 15);
            fault("drag 1 " + o, 11);
            String four = opening(bits & 15, 4);
            fault("drag 1 " + four, 11);
            fault("drag 1 " + four + "x", 11);
        }
        fault("drag 1 ((((((s=1))))))", 11);
    }

    private static void withinFourSideBySide() {
        Answers.sentence("A ( or ! within 4 others: those that have ended are no others");
        right("drag 1 ((((s=1))))&((((s=1))))|!!!!s=1&!!!!s=2|!(!(s=1))");
        right("drag 1 (((s=1)&((s=1))))");
        fault("drag 1 (((s=1)&(((s=1)))))", 17);
        right("drag 1 (!!!s=1&!!!s=2)");
        fault("drag 1 (!!!s=1&!!!!s=2)", 18);
        right("drag 1 !(s=1)&!!!!s=1");
        right("drag 1 !!!(s=1&s=2)|((((s=3))))");
        right("drag 1 !!!s=1|!!!s=1;spring 1 ((((s=1))))");
        fault("drag 1 !!!(s=1&!s=2)", 15);
        fault("drag 1 !!!(s=1&(s=2))", 15);
        right("drag 1 !!(s=1&!s=2|(s=3))");
        holds("(s=1|(s=2|(s=3|(s=4))))", "011110000000");
    }

    private static void cliffNumbers() {
        Answers.sentence("CLIFFS are numbered 0 .. 3, as they come; FULL: there are 4 (THE TEXT stays)");
        CliffCars x = new CliffCars();
        for (int k = 0; k < 4; k++) {
            due("CLIFF " + k, Answers.read(x, "part " + (k + 1)), k);
            due("how many", x.count(0), k + 1);
            due("THE CLIFF", x.count(4), k);
            due("a fault between", Answers.read(x, "part"), k < 3 ? -14 : FULL);
        }
        due("the text of the fault stays", x.count(3), 4);
        due("a fifth", Answers.read(x, " 9"), FULL);
        due("its text stays", x.count(3), 6);
        due("again", x.cliff(), FULL);
        due("its text stays", x.count(3), 6);
        due("more comes behind it", x.feed(';', 1), 7);
        due("how many", x.count(0), 4);
        due("THE CLIFF", x.count(4), 3);
        due("its PART", x.of(10), 4);
        for (int k = 0; k < 4; k++) {
            x.choose(k);
            due("the PART of " + k, x.of(10), k + 1);
        }
        x = new CliffCars();
        for (int k = 0; k < 4; k++) {
            Answers.read(x, "part 1");
        }
        due("FULL with an empty text", x.cliff(), FULL);
    }

    private static void parts() {
        Answers.sentence("PARTS: as they come, 5 at most (more do not count); without any one of 5");
        String text = "rope 1";
        for (int n = 0; n <= 8; n++) {
            CliffCars x = Answers.on(text);
            int many = Math.max(1, Math.min(n, 5));
            due("PARTS of " + text, x.of(0), many);
            for (int k = 0; k < many; k++) {
                due("PART " + k + " of " + text, x.of(10 + k), n == 0 ? 5 : 20 + k);
            }
            due("PART " + many + " of " + text, x.of(10 + many), NONE);
            text += ";part " + (20 + n);
        }
        CliffCars x = Answers.on("part 3;rope 1;part 0;seats 1;part 9");
        due("the first", x.of(10), 3);
        due("the second", x.of(11), 0);
        due("the third", x.of(12), 9);
        due("how many", x.of(0), 3);
        x = Answers.on("part 0");
        due("a PART of 0 is one", x.of(0), 1);
        due("it is 0", x.of(10), 0);
    }

    private static void figure(String text, int what, int want) {
        due("of(" + what + ") of " + text, Answers.on(text).of(what), want);
    }

    private static void lastClauseCounts() {
        Answers.sentence("the last CLAUSE counts (of tank 60, of seats 6, of pond 40 at most)");
        String[] words = {"rope", "head", "brake", "tank", "seats", "pond"};
        int[] mosts = {999, 999, 999, 60, 6, 40};
        for (int k = 0; k < words.length; k++) {
            int most = mosts[k];
            String w = words[k] + " ";
            figure(w + (most - 1), k + 1, most - 1);
            figure(w + most, k + 1, most);
            figure(w + Math.min(most + 1, 999), k + 1, most);
            figure(w + "999", k + 1, most);
            figure(w + "0", k + 1, 0);
            figure(w + "1", k + 1, 1);
            figure(w + "2;" + w + "5", k + 1, 5);
            figure(w + "5;" + w + "2", k + 1, 2);
            figure(w + "999;" + w + "3", k + 1, 3);
            figure(w + "3;" + w + "999", k + 1, most);
            figure(w + "3;part 1;" + w + "0", k + 1, 0);
        }
        Answers.sentence("without: 0, 10, 999, 20, 4, 20");
        int[] without = {0, 10, 999, 20, 4, 20};
        for (int k = 0; k < without.length; k++) {
            figure("part 1", k + 1, without[k]);
            figure("drag 3 s=1;spring 3 s=1", k + 1, without[k]);
        }
        CliffCars x = Answers.on("tank 7;seats 1;pond 3;head 2;rope 9;brake 8");
        Answers.read(x, "part 1");
        for (int k = 0; k < without.length; k++) {
            due("nothing stays from the CLIFF before: of(" + (k + 1) + ")", x.of(k + 1), without[k]);
        }
        Answers.read(x, "part 1;tank 9;drag 5 s=1;x");
        Answers.read(x, "part 1");
        due("nothing stays from a fault", x.of(4), 20);
        due("no DRAG stays from a fault", x.told(0, 1), 0);
    }

    private static void theCliffsPond() {
        Answers.sentence("from now on THE CLIFF; POND: the CLIFF's pond at most");
        CliffCars x = Answers.on("pond 10");
        x.pond(10);
        due("as great a pond", Answers.read(x, "pond 10"), 1);
        due("all of it stays", x.pond(10), 10);
        due("one less", Answers.read(x, "pond 9"), 2);
        due("the last pint goes", x.pond(9), 9);
        due("none", Answers.read(x, "pond 0"), 3);
        due("nothing stays", x.pond(0), 0);
        x = Answers.on("pond 10");
        x.pond(7);
        Answers.read(x, "pond 40");
        due("a greater one adds nothing", x.pond(40), 7);
        Answers.read(x, "pond 5;");
        due("a fault takes nothing", x.pond(40), 40);
    }

    private static void choosing() {
        Answers.sentence("Another one is THE CLIFF: which one was (-5: none). NONE.");
        CliffCars x = new CliffCars();
        for (int k : new int[] {-1, 0, 1, FAR, FAR_BELOW}) {
            due("without any: " + k, x.choose(k), NONE);
        }
        x.image();
        for (int n = 1; n <= 4; n++) {
            Answers.read(x, "part " + n + ";pond " + 10 * n);
            due("one too far of " + n, x.choose(n), NONE);
            due("one below of " + n, x.choose(-1), NONE);
            due("the last of " + n, x.choose(n - 1), n - 1);
            due("refused ones choose none", x.count(4), n - 1);
        }
        due("far", x.choose(FAR), NONE);
        due("far below", x.choose(FAR_BELOW), NONE);
        due("the first", x.choose(0), 3);
        due("the last", x.choose(3), 0);
        x.undo();
        due("none is THE CLIFF", x.count(4), NOT_ANY);
        due("refused", x.choose(4), NONE);
        due("none is THE CLIFF", x.count(4), NOT_ANY);
        due("none was", x.choose(2), NOT_ANY);
        due("its PART", x.of(10), 3);

        Answers.sentence("the POND keeps no more than its pond");
        x.pond(30);
        x.choose(3);
        due("a greater one", x.pond(21), 30);
        x.choose(1);
        due("20 of 21", x.pond(20), 20);
        x.choose(1);
        due("20 of 20", x.pond(11), 20);
        x.choose(0);
        x.choose(3);
        due("what was lost is lost", x.pond(10), 10);
        x.choose(0);
        due("10 of 10", x.pond(0), 10);
    }

    private static void figures() {
        Answers.sentence("what 0 .. 6, 10 and k: its k-th PART. NONE: also without a CLIFF");
        CliffCars x = new CliffCars();
        int[] whats = {FAR_BELOW, -1, 0, 1, 6, 7, 9, 10, 11, 14, 15, FAR};
        for (int what : whats) {
            due("without a CLIFF: " + what, x.of(what), NONE);
        }
        Answers.read(x, "part 7;part 8;rope 1;head 2;brake 3;tank 4;seats 5;pond 6");
        int[] want = {NONE, NONE, 2, 1, 6, NONE, NONE, 7, 8, NONE, NONE, NONE};
        for (int k = 0; k < whats.length; k++) {
            due("of(" + whats[k] + ")", x.of(whats[k]), want[k]);
        }
        for (int what = 1; what <= 6; what++) {
            due("of(" + what + ")", x.of(what), what);
        }
    }

    private static void together() {
        Answers.sentence("DRAG, SPRING in a STEP: the n of all whose E holds, together");
        CliffCars x = Answers.on("drag 999 s<12;drag 999 s<12;drag 999 s<12;drag 999 s<12;drag 999 s<12;drag 999 s<9;rope 1");
        due("six of 999", x.told(0, 8), 6 * 999);
        due("five of 999", x.told(0, 9), 5 * 999);
        due("no SPRING", x.told(1, 0), 0);
        x = Answers.on("spring 1 s=0;spring 2 s<2;spring 4 w=1;drag 8 s=0;spring 16 s>12");
        int[] dry = {3, 2, 0, 0};
        for (int k = 0; k < 4; k++) {
            due("SPRING in " + k, x.told(1, k), dry[k]);
        }
        x.wet(true);
        for (int k = 0; k < 4; k++) {
            due("wet SPRING in " + k, x.told(1, k), dry[k] + 4);
        }
        due("DRAG apart", x.told(0, 0), 8);

        Answers.sentence("told: NONE: what, step, no CLIFF");
        for (int step : new int[] {FAR_BELOW, -1, 12, FAR}) {
            due("DRAG in STEP " + step, x.told(0, step), NONE);
            due("SPRING in STEP " + step, x.told(1, step), NONE);
        }
        for (int what : new int[] {FAR_BELOW, -1, 2, FAR}) {
            due("what " + what, x.told(what, 0), NONE);
        }
        due("the first STEP", x.told(1, 0), 7);
        due("the last STEP", x.told(1, 11), 4);
        due("without a CLIFF", Answers.noCliff().told(0, 0), NONE);
        due("without a CLIFF", Answers.noCliff().told(1, 11), NONE);
    }
}
