/** 'Texts' of the terms, and promises 18 to 21: each sentence that names a boundary case. */
public final class EdgesOfTextsTest {
    private static final Checks CHECKS = new Checks();
    private static final int NONE = PileRecount.NONE;
    /** A start of a text, and the characters that can stand behind it, digits told by a "d" or an "n". */
    private static final String[][] STARTS = {
        {"", "d"}, {"1", "d,"}, {"0", ","}, {"12", "d,"}, {"99", "d,"}, {"100", ","}, {"999", ","},
        {"1,", "d"}, {"1,2", "d,;="}, {"1,0", ",;="}, {"1,999", ",;="}, {"1,99", "d,;="},
        {"1,2,", "d"}, {"1,2,3", "d;="}, {"1,2,0", ";="}, {"1,2,345", ";="},
        {"1,2=", "d"}, {"1,2=3", "d,"}, {"1,2=0", ","}, {"1,2=345", ","},
        {"1,2=3,", "d"}, {"1,2=3,4", "d;"}, {"1,2=3,0", ";"}, {"1,2=3,456", ";"},
        {"1,2,3=", "d"}, {"1,2,3=4", "d,"}, {"1,2,3=4,", "d"}, {"1,2,3=4,5", "d;"}, {"0,0,0=0,0", ";"},
        {"1,2;", "d"}, {"1,2;3", "d,"}, {"1,2,3;4,5", "d,;="}, {"1,2=3,4;5,6,7", "d;="}, {"1,2=3,4;0,0", ",;="}};

    public static void main(String[] arguments) {
        atMost80Characters();
        charactersThatCanStand();
        numbersUpTo999();
        noLeadingZeros();
        blanksLeftOut();
        endsTooEarly();
        firstOfSeveralFaults();
        putOneToEight();
        putCodes();
        putNothingAboveZeros();
        putUpTo80();
        putAppends();
        wipeEmptyAndFull();
        faultOfAnEmptyPad();
        faultAtTheLastCharacter();
        makeTheFirstAndTheLastPile();
        makeWithVotesAtTheEdges();
        makeUpToTheFirstError();
        makeEmptiesThePad();
        makeIsOneChange();
        CHECKS.end("EdgesOfTextsTest");
    }

    private static PileRecount withText(String text) {
        PileRecount x = new PileRecount();
        Checks.putText(x, text);
        CHECKS.due("the length of " + text, x.state(12), text.length());
        return x;
    }

    /** "The pad is a text of at most 80 characters" */
    private static void atMost80Characters() {
        PileRecount x = withText("");
        CHECKS.due("no character", x.state(12), 0);
        for (int length = 1; length <= 80; length++) {
            CHECKS.due("one more", x.put('1'), length);
            CHECKS.due("the length", x.state(12), length);
        }
        CHECKS.due("above 80", x.put('1'), PileRecount.TOO_MANY);
        CHECKS.due("the length", x.state(12), 80);
    }

    /** "the first character that cannot stand at its place": all characters behind each start of a text. */
    private static void charactersThatCanStand() {
        for (String[] start : STARTS) {
            for (char next = 33; next <= 126; next++) {
                boolean isDigit = next >= '0' && next <= '9';
                boolean canStand = start[1].indexOf(isDigit ? 'd' : next) >= 0 && next != 'd';
                PileRecount x = withText(start[0] + next);
                int length = start[0].length();
                if (canStand) {
                    int fault = x.fault();
                    CHECKS.due(start[0] + next + " has no such fault", fault == NONE || fault == length + 1, true);
                } else {
                    CHECKS.due("the fault of " + start[0] + next, x.fault(), length);
                }
            }
        }
    }

    /** "A number is 0 to 999": "also of a digit by which a number would be above 999". */
    private static void numbersUpTo999() {
        for (int part = 0; part < 5; part++) {
            for (String number : new String[] {"0", "1", "9", "10", "99", "100", "998", "999"}) {
                dueFaultOfNumber(part, number, NONE);
            }
            for (String number : new String[] {"1000", "9990", "9999", "1001", "99999", "1234"}) {
                dueFaultOfNumber(part, number, 3);
            }
        }
        CHECKS.due("a row of nines", withText("99999999999999999999").fault(), 3);
        // 2^32 + 1 would be 1 if it wrapped around
        CHECKS.due("a number that would wrap around", withText("4294967297,1").fault(), 3);
    }

    /** "without leading zeros" */
    private static void noLeadingZeros() {
        for (int part = 0; part < 5; part++) {
            for (String number : new String[] {"00", "01", "09", "000", "007", "0999"}) {
                dueFaultOfNumber(part, number, 1);
            }
        }
    }

    /** A number in one of the five places of a pile; its fault is told from where it begins. */
    private static void dueFaultOfNumber(int part, String number, int fault) {
        String[] before = {"", "1,", "1,2,", "1,2=", "1,2=3,"};
        String[] behind = {",2", "", "", ",4", ""};
        for (String first : new String[] {"", "7,8,9=0,1;"}) {
            String text = first + before[part] + number + behind[part];
            int due = fault == NONE ? NONE : first.length() + before[part].length() + fault;
            CHECKS.due("the fault of " + text, withText(text).fault(), due);
        }
    }

    /** "the blanks (0, if they are left out)", also behind a pile that has some. */
    private static void blanksLeftOut() {
        PileRecount x = withText("3,1,9;4,2;5,3,0;6,4=7,3;7,5,1=8,5");
        CHECKS.due("make()", x.make(), 5);
        int[] blanks = {9, 0, 0, 0, 1};
        int[] founds = {3, 4, 5, 7, 8};
        for (int pile = 0; pile < 5; pile++) {
            CHECKS.due("blanks of " + pile, x.ofPile(pile, 2), blanks[pile]);
            x.count(pile);
            CHECKS.due("found for 0 in " + pile, x.ofPile(pile, 5), founds[pile]);
        }
    }

    /** "if there is none and the text ends too early (also if it is empty), it is the length of the text" */
    private static void endsTooEarly() {
        for (String[] start : STARTS) {
            boolean isWhole = start[1].indexOf(';') >= 0;
            int due = isWhole ? NONE : start[0].length();
            CHECKS.due("the fault of " + start[0], withText(start[0]).fault(), due);
        }
    }

    /** "when the text is read from left to right" */
    private static void firstOfSeveralFaults() {
        CHECKS.due("two faults", withText("1,02,x").fault(), 3);
        CHECKS.due("a fault, and ends too early", withText("1,,2=").fault(), 2);
        CHECKS.due("a fault before a good pile", withText("x;1,2").fault(), 0);
        CHECKS.due("a fault behind a good pile", withText("1,2;x").fault(), 4);
    }

    /** "`characters`: 1 to 8 characters" */
    private static void putOneToEight() {
        String text = "98,76,54";
        for (int length = 1; length <= 8; length++) {
            PileRecount x = new PileRecount();
            CHECKS.due("put " + length, x.put(Checks.packed(text.substring(0, length))), length);
        }
        CHECKS.due("put no character", new PileRecount().put(0), PileRecount.BAD_VALUE);
    }

    /** "a code is not 33 to 126", at each of the eight places. */
    private static void putCodes() {
        for (int place = 0; place < 8; place++) {
            long eight = Checks.packed("11111111") & ~(255L << 8 * place);
            for (long code : new long[] {1, 31, 32, 127, 128, 160, 161, 254, 255}) {
                long characters = eight | code << 8 * place;
                CHECKS.due("put(" + characters + ")", new PileRecount().put(characters), PileRecount.BAD_VALUE);
            }
            for (long code : new long[] {33, 34, 125, 126}) {
                long characters = eight | code << 8 * place;
                CHECKS.due("put(" + characters + ")", new PileRecount().put(characters), 8);
            }
        }
    }

    /** "8 bits that are 0 mean that there are no more characters, and everything above them has to be 0, too" */
    private static void putNothingAboveZeros() {
        for (int length = 0; length < 8; length++) {
            long some = Checks.packed("1111111".substring(0, length));
            for (int bit = 8 * length + 8; bit < 64; bit++) {
                long characters = some | 1L << bit;
                CHECKS.due("put(" + characters + ")", new PileRecount().put(characters), PileRecount.BAD_VALUE);
            }
            int due = length == 0 ? PileRecount.BAD_VALUE : length;
            CHECKS.due("put(" + some + ")", new PileRecount().put(some), due);
        }
    }

    /** "TOO_MANY if the pad would be longer than 80" */
    private static void putUpTo80() {
        for (int more = 1; more <= 8; more++) {
            long characters = Checks.packed("1,2,3,4,".substring(0, more));
            CHECKS.due("put " + more + " up to 80", Situations.withPad(80 - more).put(characters), 80);
            CHECKS.due("put " + more + " up to 81", Situations.withPad(81 - more).put(characters),
                PileRecount.TOO_MANY);
        }
    }

    /** "its lowest 8 bits are the last character, the next 8 bits the one before, and so on" */
    private static void putAppends() {
        PileRecount x = new PileRecount();
        x.put(Checks.packed("12,34,56"));
        x.put(Checks.packed("=7"));
        x.put(Checks.packed(",8;90,1"));
        CHECKS.due("make()", x.make(), 2);
        int[] votes = {12, 34, 56};
        for (int what = 0; what < 3; what++) {
            CHECKS.due("ofPile(0, " + what + ")", x.ofPile(0, what), votes[what]);
        }
        x.count(0);
        CHECKS.due("found for 0", x.ofPile(0, 5), 7);
        CHECKS.due("found for 1", x.ofPile(0, 6), 8);
        CHECKS.due("the second pile", x.ofPile(1, 0), 90);
    }

    /** "Empties the pad, and returns the length that it had." */
    private static void wipeEmptyAndFull() {
        PileRecount x = new PileRecount();
        CHECKS.due("wipe an empty pad", x.wipe(), 0);
        x.put('1');
        CHECKS.due("wipe a character", x.wipe(), 1);
        CHECKS.due("it is empty", x.state(12), 0);
        x = Situations.withPad(80);
        CHECKS.due("wipe a full pad", x.wipe(), 80);
        CHECKS.due("it is empty", x.state(12), 0);
        CHECKS.due("its fault", x.fault(), 0);
        CHECKS.due("put eight", x.put(Checks.packed("7,6;5,43")), 8);
        CHECKS.due("nothing is left of what was wiped", x.fault(), NONE);
        CHECKS.due("make()", x.make(), 2);
    }

    /** "also if it is empty": also behind wipe, and behind make. */
    private static void faultOfAnEmptyPad() {
        PileRecount x = withText("");
        CHECKS.due("fault of a new pad", x.fault(), 0);
        CHECKS.due("make of a new pad", x.make(), PileRecount.BAD_TEXT);
        x = withText("1,2");
        CHECKS.due("no fault", x.fault(), NONE);
        x.make();
        CHECKS.due("fault behind make", x.fault(), 0);
        CHECKS.due("make behind make", x.make(), PileRecount.BAD_TEXT);
    }

    /** A pad of 80 characters: without a fault, with one at its last character, and with an early end. */
    private static void faultAtTheLastCharacter() {
        String row = "1,2,3=4,0;".repeat(8);
        String start = row.substring(0, 78);
        CHECKS.due("80 characters that end in 12", withText(start + "12").fault(), NONE);
        CHECKS.due("80 characters that end in 0x", withText(start + "0x").fault(), 79);
        CHECKS.due("80 characters that end in 01", withText(start + "01").fault(), 79);
        CHECKS.due("80 characters that end in 0;", withText(row).fault(), 80);
        CHECKS.due("79 characters", withText(row.substring(0, 79)).fault(), NONE);
        CHECKS.due("78 characters", withText(start).fault(), 78);
        CHECKS.due("80 characters, the fault at 0", withText(";" + start + "1").fault(), 0);
    }

    /** "Makes the piles of the pad, one after the other": one, and ten of 79 characters. */
    private static void makeTheFirstAndTheLastPile() {
        PileRecount x = withText("0,0");
        CHECKS.due("make() of one", x.make(), 1);
        CHECKS.due("its size", x.ofPile(0, 3), 0);
        x = withText("1,2,3;11,2,3;2,2,3;3,2,3;4,20,3;5,2,3;6,2,3;7,2,3;8,2,3;9,200,123;1,1");
        CHECKS.due("make() of eleven", x.make(), 10);
        CHECKS.due("piles", x.state(0), 10);
        CHECKS.due("the last pile", x.ofPile(9, 3), 332);
        x = withText("111,112,113=114,115;121,122,123=124,125;131,132,133=134,135;141,142,143=144,145");
        CHECKS.due("make() of 79 characters", x.make(), 4);
        CHECKS.due("the last pile", x.ofPile(3, 2), 143);
        x.count(3);
        CHECKS.due("the last number", x.ofPile(3, 6), 145);
    }

    /** "each by pile(), and by finds() behind that": 200 and 201, the size and one more, 999. */
    private static void makeWithVotesAtTheEdges() {
        dueMake("200,200,200", 1, 1);
        dueMake("201,0", 0, 0);
        dueMake("0,201", 0, 0);
        dueMake("0,0,201", 0, 0);
        dueMake("999,999,999=999,999", 0, 0);
        dueMake("200,200,200=600,0", 1, 1);
        dueMake("200,200,200=0,600", 1, 1);
        dueMake("200,200,200=601,0", 0, 1);
        dueMake("200,200,200=0,601", 0, 1);
        dueMake("200,200,200=300,301", 0, 1);
        dueMake("200,200,200=999,999", 0, 1);
        dueMake("0,0=0,0", 1, 1);
        dueMake("0,0=1,0", 0, 1);
        dueMake("0,0=0,1", 0, 1);
    }

    private static void dueMake(String text, int made, int piles) {
        PileRecount x = withText("1,0;" + text);
        CHECKS.due("make() of " + text, x.make(), 1 + made);
        CHECKS.due("piles of " + text, x.state(0), 1 + piles);
    }

    /** "up to the first one of which a call returns an error (if this is finds(), the pile stays)" */
    private static void makeUpToTheFirstError() {
        PileRecount x = withText("9,1;8,201;7,1");
        CHECKS.due("up to a bad pile", x.make(), 1);
        CHECKS.due("it is not there", x.state(0), 1);
        x = withText("9,1;8,1=5,5;7,1");
        CHECKS.due("up to bad finds", x.make(), 1);
        CHECKS.due("the pile stays", x.state(0), 2);
        x.count(1);
        CHECKS.due("it finds what is reported for 0", x.ofPile(1, 5), 8);
        CHECKS.due("it finds what is reported for 1", x.ofPile(1, 6), 1);
        x = withText("9,1=10,1;7,1");
        CHECKS.due("up to bad finds of the first", x.make(), 0);
        CHECKS.due("the pile stays", x.state(0), 1);
        x = Situations.even(9);
        Checks.putText(x, "1,0;2,0;3,0");
        CHECKS.due("up to 10 piles", x.make(), 1);
        CHECKS.due("piles", x.state(0), 10);
        Checks.putText(x, "1,0");
        CHECKS.due("none above 10 piles", x.make(), 0);
        x = Situations.underWay();
        x.wipe();
        Checks.putText(x, "1,0;2,0");
        CHECKS.due("none behind a count", x.make(), 0);
        CHECKS.due("piles", x.state(0), 5);
    }

    /** "and empties the pad": also if none is made; but "BAD_TEXT if the pad has a fault (then it stays)" */
    private static void makeEmptiesThePad() {
        String[][] texts = {{"1,2", ""}, {"1,201", ""}, {"1,2=4,0", ""}, {"1,2;", "1,2;"}, {"1", "1"}, {"x", "x"}};
        for (String[] of : texts) {
            PileRecount x = withText(of[0]);
            boolean hasFault = x.fault() != NONE;
            CHECKS.due("BAD_TEXT of " + of[0], x.make() == PileRecount.BAD_TEXT, hasFault);
            CHECKS.due("the length behind make of " + of[0], x.state(12), of[1].length());
        }
        PileRecount x = withText("1,2;3");
        x.make();
        CHECKS.due("the fault stays", x.fault(), 5);
        Checks.putText(x, ",4=5,2");
        CHECKS.due("and the characters", x.make(), 2);
        CHECKS.due("the second pile", x.ofPile(1, 0), 3);
    }

    /** "This is a change (one, with all of them; also if none is made)." */
    private static void makeIsOneChange() {
        PileRecount x = withText("1,2;3,4=7,0;5,6");
        CHECKS.due("three piles", x.make(), 3);
        CHECKS.due("one change", x.state(13), 1);
        Checks.putText(x, "201,0");
        CHECKS.due("none is made", x.make(), 0);
        CHECKS.due("one more change", x.state(13), 2);
        Checks.putText(x, "1,1=3,0");
        CHECKS.due("none is made without an error", x.make(), 0);
        CHECKS.due("one more change", x.state(13), 3);
        CHECKS.due("BAD_TEXT", x.make(), PileRecount.BAD_TEXT);
        CHECKS.due("no more change", x.state(13), 3);
        CHECKS.due("undo()", x.undo(), 2);
        CHECKS.due("the pile that stayed is gone", x.state(0), 3);
        CHECKS.due("undo()", x.undo(), 1);
        CHECKS.due("nothing was different", x.state(0), 3);
        CHECKS.due("undo()", x.undo(), 0);
        CHECKS.due("all three are gone", x.state(0), 0);
    }
}
