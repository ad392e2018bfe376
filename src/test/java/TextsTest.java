/** Promises 18 to 21: put, wipe, fault, make. */
public final class TextsTest {
    private static final Checks CHECKS = new Checks();
    private static final int NONE = PileRecount.NONE;

    public static void main(String[] arguments) {
        putAnswers();
        putErrors();
        putTooMany();
        wipeAnswers();
        faults();
        faultOfLongTexts();
        makeAnswers();
        makeUpToAnError();
        makeOfAPileThatStays();
        makeErrors();
        CHECKS.end("TextsTest");
    }

    private static void putAnswers() {
        PileRecount x = new PileRecount();
        CHECKS.due("put a character", x.put('1'), 1);
        CHECKS.due("put eight", x.put(Checks.packed("2,34,56=")), 9);
        CHECKS.due("put the least code", x.put(33), 10);
        CHECKS.due("put the greatest code", x.put(126), 11);
        CHECKS.due("the length", x.state(12), 11);
        CHECKS.due("put is no change", x.state(13), 0);
        CHECKS.due("the order of the characters", x.fault(), 9);
    }

    private static void putErrors() {
        PileRecount x = new PileRecount();
        long[] bad = {0, 32, 127, 255, 128, -1, Long.MIN_VALUE, Long.MAX_VALUE, 0x3100, 0x310031, 0x2031,
            0x7f31, 0x3120, 0x31L << 56 | 0x31, 1L << 63 | 0x31, 0x2031313131313131L, 0x8031313131313131L,
            0x0100000000000031L};
        for (long characters : bad) {
            CHECKS.due("put(" + characters + ")", x.put(characters), PileRecount.BAD_VALUE);
        }
        CHECKS.due("the pad stays empty", x.state(12), 0);
    }

    private static void putTooMany() {
        PileRecount x = new PileRecount();
        for (int i = 1; i <= 9; i++) {
            CHECKS.due("put eight", x.put(Checks.packed("12345678")), 8 * i);
        }
        CHECKS.due("put seven", x.put(Checks.packed("1234567")), 79);
        CHECKS.due("too many", x.put(Checks.packed("12")), PileRecount.TOO_MANY);
        CHECKS.due("bad before too many", x.put(Checks.packed("1 ")), PileRecount.BAD_VALUE);
        CHECKS.due("the length stays", x.state(12), 79);
        CHECKS.due("the last one", x.put('1'), 80);
        CHECKS.due("one too many", x.put('1'), PileRecount.TOO_MANY);
        CHECKS.due("wipe()", x.wipe(), 80);
        CHECKS.due("put behind a wipe", x.put('1'), 1);
    }

    private static void wipeAnswers() {
        PileRecount x = new PileRecount();
        CHECKS.due("wipe an empty pad", x.wipe(), 0);
        Checks.putText(x, "1,2;3,4=");
        CHECKS.due("wipe()", x.wipe(), 8);
        CHECKS.due("wipe it again", x.wipe(), 0);
        CHECKS.due("the length", x.state(12), 0);
        CHECKS.due("wipe is no change", x.state(13), 0);
    }

    private static void dueFault(String text, int want) {
        PileRecount x = new PileRecount();
        Checks.putText(x, text);
        CHECKS.due("fault() of " + text, x.fault(), want);
        CHECKS.due("the length of " + text, x.state(12), text.length());
        int made = x.make();
        CHECKS.due("make() of " + text + " is BAD_TEXT", made == PileRecount.BAD_TEXT, want != NONE);
    }

    private static void faults() {
        String[] right = {"1,2", "0,0", "1,2,3", "1,2=3,4", "1,2,3=4,5", "1,2;3,4", "999,999,999=999,999",
            "10,200,30=0,0;1,1", "1,2=3,4;5,6,7", "1,2,3;4,5=6,7;8,9,0=1,0"};
        for (String text : right) {
            dueFault(text, NONE);
        }
        String[] early = {"1", "1,", "1,2,", "1,2=", "1,2=3", "1,2=3,", "1,2;", "1,2;3", "1,2,3=4", "1,2;3,4;"};
        for (String text : early) {
            dueFault(text, text.length());
        }
        dueFault(",1", 0);
        dueFault(";", 0);
        dueFault("=", 0);
        dueFault("x", 0);
        dueFault("-1,2", 0);
        dueFault("/,2", 0);
        dueFault(":,2", 0);
        dueFault("00,1", 1);
        dueFault("01,1", 1);
        dueFault("1000,1", 3);
        dueFault("1,2345", 5);
        dueFault("1009,1", 3);
        dueFault("1,2,05", 5);
        dueFault("1,2=1000,3", 7);
        dueFault("1,2=1,9999", 9);
        dueFault("1;2", 1);
        dueFault("1=2,3", 1);
        dueFault("1,,2", 2);
        dueFault("1,;2", 2);
        dueFault("1,2,=3,4", 4);
        dueFault("1,2,3,4", 5);
        dueFault("1,2=3;4,5", 5);
        dueFault("1,2=3=4", 5);
        dueFault("1,2=3,4,5", 7);
        dueFault("1,2=3,4=5,6", 7);
        dueFault("1,2=3,;", 6);
        dueFault("1,2;;3,4", 4);
        dueFault("1,2;x", 4);
        dueFault("1,2=,3", 4);
        dueFault("1x,2", 1);
        dueFault("1,2;3,4!", 7);
    }

    private static void faultOfLongTexts() {
        PileRecount x = new PileRecount();
        CHECKS.due("fault() of an empty pad", x.fault(), 0);
        String pile = "11,1,1=0";
        for (int i = 0; i < 10; i++) {
            x.put(Checks.packed(",0;1,11,".substring(0, 8)));
        }
        CHECKS.due("fault() at the start", x.fault(), 0);
        x.wipe();
        x.put(Checks.packed(pile));
        for (int i = 0; i < 8; i++) {
            x.put(Checks.packed(",0;1,1=0"));
        }
        x.put(Checks.packed(",0;1,100"));
        CHECKS.due("80 characters without a fault", x.fault(), NONE);
        x.wipe();
        x.put(Checks.packed(pile));
        for (int i = 0; i < 9; i++) {
            x.put(Checks.packed(",0;1,1=0"));
        }
        CHECKS.due("80 characters that end too early", x.fault(), 80);
    }

    private static void makeAnswers() {
        PileRecount x = new PileRecount();
        Checks.putText(x, "60,40;55,45,2=20,80;7,8,9;0,200,200=0,400");
        CHECKS.due("fault()", x.fault(), NONE);
        CHECKS.due("make()", x.make(), 4);
        CHECKS.due("the pad is empty", x.state(12), 0);
        CHECKS.due("one change", x.state(13), 1);
        int[][] want = {{60, 40, 0, 100}, {55, 45, 2, 102}, {7, 8, 9, 24}, {0, 200, 200, 400}};
        for (int pile = 0; pile < 4; pile++) {
            for (int what = 0; what < 4; what++) {
                CHECKS.due("ofPile(" + pile + ", " + what + ")", x.ofPile(pile, what), want[pile][what]);
            }
        }
        int[][] found = {{60, 40}, {20, 80}, {7, 8}, {0, 400}};
        for (int pile = 0; pile < 4; pile++) {
            x.count(pile);
            CHECKS.due("ofPile(" + pile + ", 5)", x.ofPile(pile, 5), found[pile][0]);
            CHECKS.due("ofPile(" + pile + ", 6)", x.ofPile(pile, 6), found[pile][1]);
        }
        for (int i = 0; i < 4; i++) {
            x.undo();
        }
        CHECKS.due("undo of all of them", x.undo(), 0);
        CHECKS.due("no piles", x.state(0), 0);
        CHECKS.due("undo leaves the pad", x.state(12), 0);
        Checks.putText(x, "1,0");
        CHECKS.due("make() again", x.make(), 1);
        Checks.putText(x, "2,0");
        CHECKS.due("make() behind other piles", x.make(), 1);
        CHECKS.due("the second pile", x.ofPile(1, 0), 2);
    }

    private static void makeUpToAnError() {
        PileRecount x = new PileRecount();
        Checks.putText(x, "1,2;3,201;5,6");
        CHECKS.due("make() up to a bad pile", x.make(), 1);
        CHECKS.due("piles", x.state(0), 1);
        CHECKS.due("the pad is empty", x.state(12), 0);
        Checks.putText(x, "201,0");
        CHECKS.due("make() of a bad pile", x.make(), 0);
        CHECKS.due("a change if none is made", x.state(13), 2);
        CHECKS.due("the pad is empty", x.state(12), 0);
        Checks.putText(x, "1,1;1,1;1,1;1,1;1,1;1,1;1,1;1,1;1,1;1,1;1,1");
        CHECKS.due("make() up to 10 piles", x.make(), 9);
        CHECKS.due("piles", x.state(0), 10);
        x.undo();
        CHECKS.due("piles behind the undo", x.state(0), 1);
        x.count(0);
        Checks.putText(x, "1,1");
        CHECKS.due("make() behind a count", x.make(), 0);
        CHECKS.due("piles", x.state(0), 1);
        CHECKS.due("the pad is empty", x.state(12), 0);
        CHECKS.due("a change", x.state(13), 4);
    }

    private static void makeOfAPileThatStays() {
        PileRecount x = new PileRecount();
        Checks.putText(x, "9,0;5,2,1=5,4;7,0");
        CHECKS.due("make() up to bad finds", x.make(), 1);
        CHECKS.due("the pile stays", x.state(0), 2);
        x.count(1);
        CHECKS.due("it finds what is reported", x.ofPile(1, 5), 5);
        CHECKS.due("it finds what is reported", x.ofPile(1, 6), 2);
        x.undo();
        Checks.putText(x, "0,0=0,0;0,0=0,999;1,1");
        CHECKS.due("make() again", x.make(), 1);
        CHECKS.due("the pile stays again", x.state(0), 4);
        CHECKS.due("undo()", x.undo(), 1);
        CHECKS.due("all of them are undone", x.state(0), 2);
    }

    private static void makeErrors() {
        PileRecount x = new PileRecount();
        CHECKS.due("make() of an empty pad", x.make(), PileRecount.BAD_TEXT);
        Checks.putText(x, "1,2;3");
        CHECKS.due("make() of a fault", x.make(), PileRecount.BAD_TEXT);
        CHECKS.due("the pad stays", x.state(12), 5);
        CHECKS.due("no piles", x.state(0), 0);
        CHECKS.due("no change", x.state(13), 0);
        Checks.putText(x, ",4");
        CHECKS.due("make() of the rest", x.make(), 2);
    }
}
