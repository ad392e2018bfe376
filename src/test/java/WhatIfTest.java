/** Promises 13 to 17: riskOf, atLeast, orders, wrongOrders, suspects. */
public final class WhatIfTest {
    private static final Checks CHECKS = new Checks();
    private static final int NONE = PileRecount.NONE;

    public static void main(String[] arguments) {
        riskOfAnswers();
        riskOfErrors();
        atLeastAnswers();
        atLeastBehindWhatIsCounted();
        atLeastErrors();
        ordersAnswers();
        ordersBehindWhatIsCounted();
        ordersErrors();
        wrongOrdersAnswers();
        suspectsAnswers();
        suspectsWithoutANeed();
        nothingChanges();
        CHECKS.end("WhatIfTest");
    }

    private static void riskOfAnswers() {
        PileRecount x = new PileRecount();
        CHECKS.due("riskOf(1, 0, 1)", x.riskOf(1, 0, 1), 10000);
        CHECKS.due("riskOf(1, 1, 1)", x.riskOf(1, 1, 1), 0);
        CHECKS.due("riskOf(3, 1, 1)", x.riskOf(3, 1, 1), 6667);
        CHECKS.due("riskOf(3, 2, 1)", x.riskOf(3, 2, 1), 3334);
        CHECKS.due("riskOf(10, 3, 2)", x.riskOf(10, 3, 2), 4667);
        CHECKS.due("riskOf(20, 0, 20)", x.riskOf(20, 0, 20), 10000);
        CHECKS.due("riskOf(20, 20, 20)", x.riskOf(20, 20, 20), 0);
        CHECKS.due("riskOf(20, 1, 20)", x.riskOf(20, 1, 20), 0);
        CHECKS.due("riskOf(20, 19, 1)", x.riskOf(20, 19, 1), 500);
        CHECKS.due("riskOf(20, 10, 1)", x.riskOf(20, 10, 1), 5000);
        CHECKS.due("riskOf(20, 10, 10)", x.riskOf(20, 10, 10), 1);
        CHECKS.due("riskOf(20, 10, 5)", x.riskOf(20, 10, 5), 163);
    }

    private static void riskOfErrors() {
        PileRecount x = new PileRecount();
        int[][] bad = {{0, 0, 1}, {21, 0, 1}, {-1, 0, 1}, {5, -1, 1}, {5, 6, 1}, {5, 0, 0}, {5, 0, 6},
            {Integer.MAX_VALUE, 5, 5}, {Integer.MIN_VALUE, 0, 1}, {20, 0, Integer.MAX_VALUE}};
        for (int[] of : bad) {
            String call = "riskOf(" + of[0] + ", " + of[1] + ", " + of[2] + ")";
            CHECKS.due(call, x.riskOf(of[0], of[1], of[2]), PileRecount.BAD_VALUE);
        }
    }

    private static void atLeastAnswers() {
        PileRecount x = new PileRecount();
        for (int i = 0; i < 10; i++) {
            x.pile(100, 90, 0);
        }
        CHECKS.due("LIMIT 500", x.atLeast(), 10);
        x.limit(1000);
        CHECKS.due("LIMIT 1000", x.atLeast(), 9);
        x.limit(999);
        CHECKS.due("LIMIT 999", x.atLeast(), 10);
        x.limit(9999);
        CHECKS.due("LIMIT 9999", x.atLeast(), 1);
        x.finds(0, 0, 190);
        CHECKS.due("what would be found does not matter", x.atLeast(), 1);
        x = new PileRecount();
        x.pile(50, 0, 0);
        x.pile(10, 0, 0);
        x.pile(10, 0, 0);
        x.limit(1);
        // Lead 70, swings 100, 20, 20: behind two piles of which one is pile 0, there is no need.
        CHECKS.due("whichever they are", x.atLeast(), 3);
        CHECKS.due("suspects()", x.suspects(), 1);
        x.count(0);
        CHECKS.due("pile 0 is counted", x.atLeast(), 0);
    }

    private static void atLeastBehindWhatIsCounted() {
        PileRecount x = new PileRecount();
        for (int i = 0; i < 4; i++) {
            x.pile(20, 19, 0);
        }
        x.limit(2500);
        x.finds(0, 19, 19);
        x.finds(1, 18, 20);
        x.count(2);
        CHECKS.due("two more", x.atLeast(), 2);
        x.count(0);
        CHECKS.due("behind a worse pile all", x.atLeast(), 2);
        x.count(1);
        CHECKS.due("the lead is 0", x.state(4), 100000);
        CHECKS.due("behind all of them either", x.atLeast(), NONE);
        x.undo();
        CHECKS.due("behind the undo", x.atLeast(), 2);
        x.count(3);
        x.count(1);
        CHECKS.due("all counted, the lead is 0", x.atLeast(), NONE);
        x = new PileRecount();
        x.pile(5, 0, 0);
        x.pile(5, 0, 0);
        x.limit(5000);
        x.count(0);
        x.stop();
        CHECKS.due("when it was stopped", x.atLeast(), 0);
    }

    private static void atLeastErrors() {
        PileRecount x = new PileRecount();
        CHECKS.due("atLeast without piles", x.atLeast(), PileRecount.NOT_POSSIBLE);
        x.pile(3, 3, 3);
        CHECKS.due("atLeast without a winner", x.atLeast(), PileRecount.NOT_POSSIBLE);
    }

    private static void dueOrders(String when, PileRecount x, int... want) {
        for (int draws = 0; draws <= 10; draws++) {
            int due = draws < want.length ? want[draws] : 0;
            CHECKS.due(when + ": orders(" + draws + ")", x.orders(draws), due);
        }
    }

    private static void ordersAnswers() {
        PileRecount x = new PileRecount();
        for (int i = 0; i < 5; i++) {
            x.pile(20, 19, 0);
        }
        dueOrders("LIMIT 500", x, 0, 0, 0, 0, 0, 120);
        x.limit(4000);
        dueOrders("LIMIT 4000", x, 0, 0, 0, 120);
        x.finds(2, 19, 19);
        // pile 2 is among the first three in 72 orders: then all have to be counted
        dueOrders("a worse pile", x, 0, 0, 0, 48, 0, 72);
        x.finds(2, 20, 18);
        dueOrders("a better pile", x, 0, 0, 0, 120);
        x = new PileRecount();
        x.pile(50, 0, 0);
        x.pile(10, 0, 0);
        x.pile(10, 0, 0);
        x.limit(1);
        // with pile 0 there is no need for more
        dueOrders("unlike piles", x, 0, 2, 2, 2);
        for (int i = 0; i < 7; i++) {
            x.pile(0, 0, 0);
        }
        dueOrders("ten piles", x, 0, 362880, 362880, 362880, 362880, 362880, 362880, 362880, 362880,
            362880, 362880);
    }

    private static void ordersBehindWhatIsCounted() {
        PileRecount x = new PileRecount();
        for (int i = 0; i < 5; i++) {
            x.pile(20, 19, 0);
        }
        x.limit(4000);
        x.count(3);
        dueOrders("one counted", x, 0, 0, 24);
        x.count(0);
        dueOrders("two counted", x, 0, 6);
        x.count(1);
        dueOrders("three counted", x, 2);
        x.stop();
        dueOrders("stopped", x, 2);
        x.undo();
        x.count(2);
        dueOrders("four counted", x, 1);
        x.count(4);
        dueOrders("all counted", x, 1);
        x = new PileRecount();
        x.pile(1, 0, 0);
        x.finds(0, 0, 0);
        dueOrders("never", x);
        x.count(0);
        dueOrders("never, all counted", x);
    }

    private static void ordersErrors() {
        PileRecount x = new PileRecount();
        CHECKS.due("orders(-1)", x.orders(-1), PileRecount.BAD_VALUE);
        CHECKS.due("orders(11)", x.orders(11), PileRecount.BAD_VALUE);
        CHECKS.due("orders(MAX)", x.orders(Integer.MAX_VALUE), PileRecount.BAD_VALUE);
        CHECKS.due("orders(0) without piles", x.orders(0), PileRecount.NOT_POSSIBLE);
        x.pile(3, 3, 3);
        CHECKS.due("orders(10) without a winner", x.orders(10), PileRecount.NOT_POSSIBLE);
    }

    private static void wrongOrdersAnswers() {
        PileRecount x = new PileRecount();
        CHECKS.due("wrongOrders without piles", x.wrongOrders(), PileRecount.NOT_POSSIBLE);
        for (int i = 0; i < 5; i++) {
            x.pile(20, 19, 0);
        }
        x.limit(4000);
        CHECKS.due("a right outcome", x.wrongOrders(), 0);
        x.finds(2, 17, 20);
        CHECKS.due("a true lead of 1", x.wrongOrders(), 0);
        CHECKS.due("one stops early in 48", x.orders(3), 48);
        x.finds(2, 17, 21);
        CHECKS.due("a true lead of 0", x.wrongOrders(), 48);
        x.finds(0, 19, 20);
        CHECKS.due("two worse piles", x.wrongOrders(), 12);
        x.count(1);
        CHECKS.due("one counted", x.wrongOrders(), 4);
        x.count(3);
        x.count(4);
        CHECKS.due("three counted", x.wrongOrders(), 2);
        x.stop();
        CHECKS.due("stopped", x.wrongOrders(), 2);
        x.undo();
        x.count(0);
        CHECKS.due("a worse one counted", x.wrongOrders(), 0);
        x = new PileRecount();
        x.pile(3, 3, 3);
        CHECKS.due("wrongOrders without a winner", x.wrongOrders(), PileRecount.NOT_POSSIBLE);
    }

    private static void suspectsAnswers() {
        PileRecount x = new PileRecount();
        x.pile(30, 0, 0);
        x.pile(10, 0, 50);
        x.pile(35, 0, 0);
        x.pile(35, 0, 0);
        // swings 60, 70, 70, 70; lead 110
        CHECKS.due("two of the same", x.suspects(), 0b0110);
        x.count(1);
        CHECKS.due("of those that are not counted", x.suspects(), 0b1100);
        x.count(3);
        CHECKS.due("of two", x.suspects(), 0b0101);
        x.count(2);
        CHECKS.due("no need", x.suspects(), NONE);
        x = new PileRecount();
        x.pile(20, 0, 0);
        x.pile(0, 70, 0);
        x.pile(0, 0, 100);
        CHECKS.due("the winner is 1", x.suspects(), 0b010);
    }

    private static void suspectsWithoutANeed() {
        PileRecount x = new PileRecount();
        CHECKS.due("suspects without piles", x.suspects(), PileRecount.NOT_POSSIBLE);
        x.pile(3, 3, 3);
        CHECKS.due("suspects without a winner", x.suspects(), PileRecount.NOT_POSSIBLE);
        x.pile(5, 0, 0);
        x.finds(1, 0, 0);
        x.count(1);
        CHECKS.due("a need of 0", x.suspects(), 0);
        x.undo();
        x.finds(1, 5, 0);
        x.count(1);
        x.count(0);
        CHECKS.due("all counted, and right", x.suspects(), NONE);
    }

    private static void nothingChanges() {
        PileRecount x = new PileRecount();
        x.pile(20, 0, 0);
        x.pile(20, 0, 0);
        x.finds(0, 0, 20);
        x.count(1);
        x.riskOf(5, 1, 1);
        x.atLeast();
        x.orders(1);
        x.wrongOrders();
        x.suspects();
        CHECKS.dueStates("behind what ifs", x, 2, 1, 0, 100040, 100040, 1, 5000, 0, 0, 0, 500, 1, 0, 4);
    }
}
