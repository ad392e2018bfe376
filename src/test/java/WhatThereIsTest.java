/** Promises 10 to 12: ofPile, state, counted. */
public final class WhatThereIsTest {
    private static final Checks CHECKS = new Checks();
    private static final int NONE = PileRecount.NONE;

    public static void main(String[] arguments) {
        ofPileAnswers();
        ofPileWorse();
        ofPileErrors();
        stateAnswers();
        stateOfALead();
        stateOfANeed();
        stateOfARisk();
        stateErrors();
        countedAnswers();
        CHECKS.end("WhatThereIsTest");
    }

    private static void dueOfPile(PileRecount x, int pile, int... want) {
        for (int what = 0; what < want.length; what++) {
            CHECKS.due("ofPile(" + pile + ", " + what + ")", x.ofPile(pile, what), want[what]);
        }
    }

    private static void ofPileAnswers() {
        PileRecount x = new PileRecount();
        x.pile(10, 20, 3);
        dueOfPile(x, 0, 10, 20, 3, 33, NONE, NONE, NONE, 0, 43);
        x.pile(40, 5, 1);
        x.finds(0, 12, 19);
        dueOfPile(x, 0, 10, 20, 3, 33, NONE, NONE, NONE, 0, 23);
        dueOfPile(x, 1, 40, 5, 1, 46, NONE, NONE, NONE, 0, 81);
        x.count(1);
        x.count(0);
        dueOfPile(x, 0, 10, 20, 3, 33, 1, 12, 19, 0, NONE);
        dueOfPile(x, 1, 40, 5, 1, 46, 0, 40, 5, 0, NONE);
        x = new PileRecount();
        x.pile(5, 5, 7);
        dueOfPile(x, 0, 5, 5, 7, 17, NONE, NONE, NONE, 0, NONE);
    }

    private static void ofPileWorse() {
        PileRecount x = new PileRecount();
        x.pile(10, 20, 3);
        x.pile(10, 30, 3);
        x.finds(0, 11, 20);
        x.finds(1, 10, 31);
        CHECKS.due("not worse if it is not counted", x.ofPile(0, 7), 0);
        x.count(0);
        x.count(1);
        CHECKS.due("less for the winner 1 is worse", x.ofPile(0, 7), 1);
        CHECKS.due("more for the winner 1 is not", x.ofPile(1, 7), 0);
        CHECKS.due("worse piles", x.state(7), 1);
    }

    private static void ofPileErrors() {
        PileRecount x = new PileRecount();
        CHECKS.due("ofPile(0, 9) without piles", x.ofPile(0, 9), PileRecount.NO_SUCH);
        x.pile(1, 0, 0);
        CHECKS.due("ofPile(-1, 0)", x.ofPile(-1, 0), PileRecount.NO_SUCH);
        CHECKS.due("ofPile(1, 0)", x.ofPile(1, 0), PileRecount.NO_SUCH);
        CHECKS.due("ofPile(1, -1)", x.ofPile(1, -1), PileRecount.NO_SUCH);
        CHECKS.due("ofPile(0, -1)", x.ofPile(0, -1), PileRecount.BAD_VALUE);
        CHECKS.due("ofPile(0, 9)", x.ofPile(0, 9), PileRecount.BAD_VALUE);
        CHECKS.due("ofPile(MAX, 0)", x.ofPile(Integer.MAX_VALUE, 0), PileRecount.NO_SUCH);
    }

    private static void stateAnswers() {
        PileRecount x = new PileRecount();
        x.pile(0, 40, 2);
        x.pile(30, 0, 0);
        x.pile(5, 6, 0);
        x.limit(700);
        x.seed(9);
        Checks.putText(x, "1,2");
        x.finds(1, 29, 0);
        CHECKS.dueStates("set up", x, 3, 0, 1, 100011, 100011, 1, 10000, 0, 0, 0, 700, 9, 3, 6);
        x.count(1);
        // what was found: 29 for 0; the lead is 12, pile 0 alone could turn it
        CHECKS.dueStates("one", x, 3, 1, 1, 100011, 100012, 1, 6667, 0, 0, 0, 700, 9, 3, 6);
        x.count(2);
        CHECKS.dueStates("two", x, 3, 2, 1, 100011, 100012, 1, 3334, 0, 0, 0, 700, 9, 3, 6);
        x.count(0);
        CHECKS.dueStates("all", x, 3, 3, 1, 100011, 100012, NONE, 0, 0, 0, 1, 700, 9, 3, 6);
        x.stop();
        CHECKS.dueStates("stopped", x, 3, 3, 1, 100011, 100012, NONE, 0, 0, 1, 1, 700, 9, 3, 6);
    }

    private static void stateOfALead() {
        PileRecount x = new PileRecount();
        x.pile(20, 0, 0);
        x.pile(0, 15, 0);
        x.finds(0, 0, 20);
        CHECKS.due("what is not counted counts as reported", x.state(4), 100005);
        x.count(0);
        CHECKS.due("below 0", x.state(4), 99965);
        CHECKS.due("the reported lead stays", x.state(3), 100005);
        CHECKS.due("the winner stays", x.state(2), 0);
        CHECKS.due("need", x.state(5), 0);
    }

    private static void stateOfANeed() {
        PileRecount x = new PileRecount();
        x.pile(30, 0, 0);
        x.pile(40, 0, 0);
        x.pile(50, 0, 0);
        // swings 60, 80, 100; lead 120
        CHECKS.due("two piles", x.state(5), 2);
        x.pile(0, 20, 0);
        CHECKS.due("just the lead is enough", x.state(5), 1);
        x.count(2);
        CHECKS.due("of the others two", x.state(5), 2);
        x.count(1);
        CHECKS.due("together less than the lead", x.state(5), NONE);
        CHECKS.due("no risk without a need", x.state(6), 0);
        CHECKS.due("one may stop", x.state(9), 1);
        x.count(0);
        CHECKS.due("a swing of 0 turns nothing", x.state(5), NONE);
        x = new PileRecount();
        x.pile(1, 0, 0);
        CHECKS.due("a lead of 1", x.state(5), 1);
        x.pile(4, 0, 0);
        x.count(1);
        x.count(0);
        x.undo();
        CHECKS.due("together much less", x.state(5), NONE);
        x = new PileRecount();
        x.pile(30, 0, 0);
        x.pile(0, 0, 29);
        x.count(0);
        CHECKS.due("together less by 1", x.state(5), NONE);
        x = new PileRecount();
        x.pile(30, 0, 0);
        x.pile(0, 0, 30);
        x.count(0);
        CHECKS.due("together as many", x.state(5), 1);
    }

    private static void stateOfARisk() {
        PileRecount x = new PileRecount();
        for (int i = 0; i < 4; i++) {
            x.pile(10, 9, 0);
        }
        x.limit(5000);
        x.count(0);
        CHECKS.due("3 of 4", x.state(6), 7500);
        CHECKS.due("above LIMIT", x.state(9), 0);
        x.finds(1, 9, 9);
        x.count(2);
        CHECKS.due("2 of 4", x.state(6), 5000);
        CHECKS.due("at LIMIT", x.state(9), 1);
        x.count(1);
        CHECKS.due("behind a worse pile", x.state(6), 10000);
        CHECKS.due("behind a worse pile", x.state(9), 0);
        x.finds(3, 8, 10);
        CHECKS.due("all but one", x.state(4), 100003);
        x.count(3);
        CHECKS.due("a lead of 0", x.state(4), 100000);
        CHECKS.due("all counted, and wrong", x.state(6), 10000);
        x.undo();
        x.finds(3, 9, 10);
        x.count(3);
        CHECKS.due("all counted, and right", x.state(6), 0);
        CHECKS.due("two are worse", x.state(7), 2);
        CHECKS.due("one may stop", x.state(9), 1);
    }

    private static void stateErrors() {
        PileRecount x = new PileRecount();
        CHECKS.due("state(-1)", x.state(-1), PileRecount.BAD_VALUE);
        CHECKS.due("state(14)", x.state(14), PileRecount.BAD_VALUE);
        CHECKS.due("state(MAX)", x.state(Integer.MAX_VALUE), PileRecount.BAD_VALUE);
    }

    private static void countedAnswers() {
        PileRecount x = new PileRecount();
        x.pile(1, 0, 0);
        x.pile(2, 0, 0);
        x.pile(3, 0, 0);
        CHECKS.due("counted(0)", x.counted(0), PileRecount.NO_SUCH);
        x.count(2);
        x.count(0);
        CHECKS.due("counted(0)", x.counted(0), 2);
        CHECKS.due("counted(1)", x.counted(1), 0);
        CHECKS.due("counted(2)", x.counted(2), PileRecount.NO_SUCH);
        CHECKS.due("counted(-1)", x.counted(-1), PileRecount.NO_SUCH);
        CHECKS.due("counted(MAX)", x.counted(Integer.MAX_VALUE), PileRecount.NO_SUCH);
        CHECKS.due("counted(MIN)", x.counted(Integer.MIN_VALUE), PileRecount.NO_SUCH);
        x.undo();
        CHECKS.due("counted(1) behind the undo", x.counted(1), PileRecount.NO_SUCH);
    }
}
