/** Promises 13 to 17: each sentence that names a boundary case. */
public final class EdgesOfWhatIfTest {
    private static final Checks CHECKS = new Checks();
    private static final int NONE = PileRecount.NONE;
    private static final int MOST_RISK_PILES = 20;

    public static void main(String[] arguments) {
        riskOfAllNumbers();
        riskOfAtItsEdges();
        atLeastNoneAndAll();
        atLeastWhicheverTheyAre();
        atLeastIfTheyGiveWhatIsReported();
        atLeastNotBehindAllEither();
        ordersOfTenPiles();
        ordersOfNoPiles();
        ordersByWhatRecountsFind();
        ordersThatNeverStop();
        ordersDoNotMindAStop();
        wrongOrdersAtTheEdge();
        wrongOrdersOfARightOutcome();
        wrongOrdersOfTenPiles();
        wrongOrdersAreOfTheSameOrders();
        suspectsOfTheSameSwing();
        suspectsFirstAndLast();
        suspectsNoneAndZero();
        sidesExchanged();
        CHECKS.end("EdgesOfWhatIfTest");
    }

    /** All that may be asked, by Pascal's triangle; a new object for each few calls. */
    private static void riskOfAllNumbers() {
        long[][] choices = new long[MOST_RISK_PILES + 1][MOST_RISK_PILES + 2];
        for (int things = 0; things <= MOST_RISK_PILES; things++) {
            choices[things][0] = 1;
            for (int some = 1; some <= things; some++) {
                choices[things][some] = choices[things - 1][some - 1] + choices[things - 1][some];
            }
        }
        for (int piles = 1; piles <= MOST_RISK_PILES; piles++) {
            PileRecount x = new PileRecount();
            for (int counted = 0; counted <= piles; counted++) {
                for (int need = 1; need <= piles; need++) {
                    long missed = 10000 * choices[piles - need][counted];
                    long all = choices[piles][counted];
                    int due = (int) (missed / all) + (missed % all == 0 ? 0 : 1);
                    String call = "riskOf(" + piles + ", " + counted + ", " + need + ")";
                    CHECKS.due(call, x.riskOf(piles, counted, need), due);
                }
            }
        }
    }

    /** "1 to 20", "0 to piles", "1 to piles", "rounded up", "(0 if j is above i)" */
    private static void riskOfAtItsEdges() {
        PileRecount x = new PileRecount();
        CHECKS.due("the fewest piles, none counted", x.riskOf(1, 0, 1), 10000);
        CHECKS.due("the fewest piles, all counted", x.riskOf(1, 1, 1), 0);
        CHECKS.due("the most piles, none counted", x.riskOf(20, 0, 1), 10000);
        CHECKS.due("the most piles, none counted, all needed", x.riskOf(20, 0, 20), 10000);
        CHECKS.due("the most piles, all counted", x.riskOf(20, 20, 1), 0);
        CHECKS.due("one counted, one not needed", x.riskOf(20, 1, 19), 500);
        CHECKS.due("one more counted than not needed", x.riskOf(20, 2, 19), 0);
        CHECKS.due("just as many counted", x.riskOf(20, 5, 15), 1);
        CHECKS.due("1 of 184756, rounded up", x.riskOf(20, 10, 10), 1);
        CHECKS.due("1 of 3", x.riskOf(3, 2, 1), 3334);
        CHECKS.due("2 of 3", x.riskOf(3, 1, 1), 6667);
        CHECKS.due("1 of 4, nothing to round", x.riskOf(4, 3, 1), 2500);
        CHECKS.due("1 of 20, nothing to round", x.riskOf(20, 19, 1), 500);
    }

    private static PileRecount of(int limit, int[]... piles) {
        PileRecount x = new PileRecount();
        x.limit(limit);
        for (int[] pile : piles) {
            x.pile(pile[0], pile[1], pile[2]);
        }
        return x;
    }

    private static PileRecount even(int piles, int limit) {
        PileRecount x = Situations.even(piles);
        x.limit(limit);
        return x;
    }

    /** "how many more piles have to be counted at least": 0, one, all but one, all. */
    private static void atLeastNoneAndAll() {
        CHECKS.due("10 of 10", even(10, 999).atLeast(), 10);
        CHECKS.due("9 of 10", even(10, 1000).atLeast(), 9);
        CHECKS.due("1 of 10", even(10, 9000).atLeast(), 1);
        CHECKS.due("2 of 10", even(10, 8999).atLeast(), 2);
        CHECKS.due("1 of 1", even(1, 9999).atLeast(), 1);
        PileRecount x = even(10, 9000);
        x.count(9);
        CHECKS.due("none more", x.atLeast(), 0);
        x = even(1, 1);
        x.count(0);
        CHECKS.due("none more, all counted", x.atLeast(), 0);
        x = even(10, 8000);
        x.count(3);
        CHECKS.due("one more", x.atLeast(), 1);
    }

    /** "the least number t such that one may stop behind any t of the piles that are not counted" */
    private static void atLeastWhicheverTheyAre() {
        // lead 70: behind pile 0 the others are together less than it; behind the others it is not so
        int[][] piles = {{50, 0, 0}, {10, 0, 0}, {10, 0, 0}};
        CHECKS.due("not behind the two others", of(1, piles).atLeast(), 3);
        CHECKS.due("the risk behind one other is 6667", of(6667, piles).atLeast(), 1);
        CHECKS.due("above the limit by 1", of(6666, piles).atLeast(), 2);
        CHECKS.due("the risk behind two others is 3334", of(3334, piles).atLeast(), 2);
        CHECKS.due("above the limit by 1", of(3333, piles).atLeast(), 3);
        PileRecount x = of(1, piles);
        x.count(0);
        CHECKS.due("behind pile 0", x.atLeast(), 0);
        x.undo();
        x.count(2);
        CHECKS.due("behind pile 2", x.atLeast(), 2);
    }

    /** "if all that are counted from now on give what is reported" */
    private static void atLeastIfTheyGiveWhatIsReported() {
        PileRecount x = even(5, 4000);
        for (int pile = 0; pile < 5; pile++) {
            x.finds(pile, 0, 39);
        }
        CHECKS.due("whatever they would find", x.atLeast(), 3);
        x = even(5, 4000);
        x.finds(2, 19, 19);
        x.count(2);
        CHECKS.due("what was found is known: all behind a worse pile", x.atLeast(), 4);
    }

    /** "NONE if one may not stop so behind all of them either": a lead of 0 and of 1. */
    private static void atLeastNotBehindAllEither() {
        for (int found = 17; found <= 19; found++) {
            PileRecount x = even(3, 9999);
            x.finds(1, found, 20);
            x.count(1);
            int lead = found - 18;
            CHECKS.due("the lead", x.state(4), 100000 + lead);
            CHECKS.due("at least, with a lead of " + lead, x.atLeast(), lead > 0 ? 2 : NONE);
            x.count(0);
            x.count(2);
            CHECKS.due("all counted, with a lead of " + lead, x.atLeast(), lead > 0 ? 0 : NONE);
        }
    }

    private static void dueOrders(String when, PileRecount x, int... want) {
        for (int draws = 0; draws <= 10; draws++) {
            int due = draws < want.length ? want[draws] : 0;
            CHECKS.due(when + ": orders(" + draws + ")", x.orders(draws), due);
        }
    }

    /** "`draws`: 0 to 10": ten piles in 3628800 orders, the first and the last number of draws. */
    private static void ordersOfTenPiles() {
        dueOrders("1 draw", even(10, 9000), 0, 3628800);
        dueOrders("2 draws", even(10, 8999), 0, 0, 3628800);
        dueOrders("9 draws", even(10, 1000), 0, 0, 0, 0, 0, 0, 0, 0, 0, 3628800);
        dueOrders("10 draws", even(10, 999), 0, 0, 0, 0, 0, 0, 0, 0, 0, 0, 3628800);
        PileRecount x = even(10, 9000);
        x.count(0);
        dueOrders("none more", x, 362880);
        x.undo();
        x.finds(9, 19, 19);
        dueOrders("pile 9 first, then all", x, 0, 3265920, 0, 0, 0, 0, 0, 0, 0, 0, 362880);
        x.count(9);
        dueOrders("behind pile 9 all", x, 0, 0, 0, 0, 0, 0, 0, 0, 0, 362880);
    }

    /** "how many orders of all piles that are not counted": of one pile, and of none, one. */
    private static void ordersOfNoPiles() {
        PileRecount x = even(1, 500);
        dueOrders("one pile", x, 0, 1);
        x.count(0);
        dueOrders("no pile left", x, 1);
        x = even(2, 5000);
        x.count(1);
        dueOrders("one pile left, one may stop", x, 1);
        x = even(2, 4999);
        x.count(1);
        dueOrders("one pile left, one may not stop", x, 0, 1);
    }

    /** "until one may stop, by what recounts find" */
    private static void ordersByWhatRecountsFind() {
        PileRecount x = even(3, 6667);
        dueOrders("as reported", x, 0, 6);
        x.finds(0, 19, 19);
        dueOrders("a worse pile", x, 0, 4, 0, 2);
        x.finds(0, 39, 0);
        dueOrders("a better pile", x, 0, 6);
        x.limit(1);
        // a lead of 41 behind pile 0: one swing of 40 is less than that
        dueOrders("with a better pile two", x, 0, 0, 4, 2);
        x.finds(1, 19, 19);
        dueOrders("a better and a worse pile", x, 0, 0, 2, 4);
    }

    /** Orders that stop nowhere, as the lead behind all of them is not above 0, are not counted. */
    private static void ordersThatNeverStop() {
        PileRecount x = even(3, 3333);
        x.finds(1, 18, 19);
        dueOrders("a true lead of 1", x, 0, 0, 0, 6);
        x.finds(1, 18, 20);
        dueOrders("a true lead of 0", x);
        x.limit(3334);
        dueOrders("but behind the two others", x, 0, 0, 2);
        x.count(1);
        dueOrders("pile 1 is counted", x);
        x.count(0);
        x.count(2);
        dueOrders("all are counted", x);
    }

    /** "Whether it was stopped does not matter." */
    private static void ordersDoNotMindAStop() {
        PileRecount x = even(5, 8000);
        x.finds(3, 15, 20);
        x.count(4);
        dueOrders("before the stop", x, 24);
        CHECKS.due("wrong orders before the stop", x.wrongOrders(), 24);
        CHECKS.due("stop()", x.stop(), 0);
        dueOrders("behind the stop", x, 24);
        CHECKS.due("wrong orders behind the stop", x.wrongOrders(), 24);
        CHECKS.due("at least behind the stop", x.atLeast(), 0);
    }

    /** "those with which one stops though the outcome is not right": a true lead of 1, 0 and -1. */
    private static void wrongOrdersAtTheEdge() {
        int[] wrong = {4, 4, 4, 0};
        for (int found = 16; found <= 19; found++) {
            PileRecount x = even(3, 6667);
            x.finds(2, found, 20);
            int trueLead = found - 18;
            CHECKS.due("wrong orders, true lead " + trueLead, x.wrongOrders(), wrong[found - 16]);
            CHECKS.due("orders(1), true lead " + trueLead, x.orders(1), 4);
            x.count(0);
            CHECKS.due("behind pile 0, true lead " + trueLead, x.wrongOrders(), wrong[found - 16] / 2);
            x.undo();
            x.count(2);
            CHECKS.due("behind pile 2, true lead " + trueLead, x.wrongOrders(), 0);
        }
    }

    /** No order is wrong if the outcome is right, even where the lead is 0 for now. */
    private static void wrongOrdersOfARightOutcome() {
        PileRecount x = even(3, 9999);
        x.finds(0, 18, 20);
        x.finds(1, 22, 17);
        CHECKS.due("none counted", x.wrongOrders(), 0);
        x.count(0);
        CHECKS.due("the lead", x.state(4), 100000);
        CHECKS.due("orders(2)", x.orders(2), 2);
        CHECKS.due("a lead of 0, a true lead of 4", x.wrongOrders(), 0);
    }

    /** The greatest numbers: all but those that begin with the worse pile; none if one goes on to the end. */
    private static void wrongOrdersOfTenPiles() {
        PileRecount x = even(10, 9000);
        x.finds(0, 0, 39);
        CHECKS.due("one worse of ten, 1 draw", x.wrongOrders(), 3265920);
        x.finds(0, 20, 19);
        CHECKS.due("no worse one", x.wrongOrders(), 0);
        x.finds(9, 10, 20);
        x.limit(1000);
        CHECKS.due("one worse of ten, 9 draws", x.wrongOrders(), 362880);
        x.limit(999);
        CHECKS.due("one worse of ten, 10 draws", x.wrongOrders(), 0);
    }

    /** "of the same orders": all of them stop if the outcome is right; if it is not, just the wrong ones do. */
    private static void wrongOrdersAreOfTheSameOrders() {
        for (int limit : new int[] {1, 2500, 3000, 5000, 6000, 7500, 9999}) {
            for (int found = 16; found <= 19; found++) {
                PileRecount x = even(4, limit);
                x.finds(0, 19, 20);
                x.finds(3, found, 19);
                int orders = 24;
                for (int pile = 0; pile < 4; pile++) {
                    String when = "LIMIT " + limit + ", found " + found + ", counted " + pile;
                    // a lead of 2 in the piles 1 and 2, of -1 in pile 0, and of found - 19 in pile 3
                    CHECKS.due(when, allOrders(x), found == 19 ? orders : x.wrongOrders());
                    orders /= 4 - pile;
                    x.count((pile + 1) % 4);
                }
            }
        }
    }

    private static int allOrders(PileRecount x) {
        int all = 0;
        for (int draws = 0; draws <= 10; draws++) {
            all += x.orders(draws);
        }
        return all;
    }

    /** "with the greatest swings, of several with the same the lowest ones" */
    private static void suspectsOfTheSameSwing() {
        PileRecount x = new PileRecount();
        for (int i = 0; i < 10; i++) {
            x.pile(10, 0, 0);
        }
        CHECKS.due("5 of 10 with the same", x.suspects(), 0b11111);
        x.count(0);
        x.count(3);
        CHECKS.due("5 of 8 with the same", x.suspects(), 0b1110110);
        x = of(500, new int[] {0, 0, 20}, new int[] {30, 0, 0}, new int[] {0, 0, 20}, new int[] {0, 0, 21});
        x.count(1);
        CHECKS.due("21, and the lower 20", x.suspects(), 0b1001);
        x = of(500, new int[] {5, 0, 30}, new int[] {20, 0, 0}, new int[] {20, 20, 0}, new int[] {15, 0, 10});
        // swings 40, 40, 40, 40; lead 40
        CHECKS.due("the same by leads and sizes of their own", x.suspects(), 0b0001);
    }

    /** "Sets of piles are bit masks": the pile 0, the pile 9, nine piles. */
    private static void suspectsFirstAndLast() {
        PileRecount x = new PileRecount();
        for (int i = 0; i < 9; i++) {
            x.pile(0, 0, 10);
        }
        x.pile(90, 0, 0);
        CHECKS.due("the pile 9", x.suspects(), 1 << 9);
        x.count(9);
        CHECKS.due("nine piles", x.suspects(), 0b111111111);
        CHECKS.due("the pile 0", even(1, 500).suspects(), 1);
    }

    /** "NONE if there is no need"; a need of 0 is one, of no piles. */
    private static void suspectsNoneAndZero() {
        int[] dues = {0, 0, NONE, NONE};
        for (int found = 0; found <= 3; found++) {
            PileRecount x = of(500, new int[] {3, 0, 0}, new int[] {0, 1, 0});
            x.finds(0, found, 0);
            x.count(0);
            CHECKS.due("the lead", x.state(4), 100000 + found - 1);
            CHECKS.due("suspects with a lead of " + (found - 1), x.suspects(), dues[found]);
            x.count(1);
            CHECKS.due("all counted, with a lead of " + (found - 1), x.suspects(), dues[found]);
        }
    }

    /** All that is told of the winner 0 is told of the winner 1, if votes of both sides are exchanged. */
    private static void sidesExchanged() {
        int[][] piles = {{40, 30, 2, 40, 30}, {10, 0, 0, 9, 1}, {0, 5, 30, 20, 15}, {25, 24, 0, 24, 24}, {7, 9, 90, 7, 9}};
        for (int limit : new int[] {1, 500, 2500, 4000, 6667, 9999}) {
            PileRecount x = new PileRecount();
            PileRecount y = new PileRecount();
            for (int pile = 0; pile < piles.length; pile++) {
                int[] of = piles[pile];
                x.pile(of[0], of[1], of[2]);
                y.pile(of[1], of[0], of[2]);
                x.finds(pile, of[3], of[4]);
                y.finds(pile, of[4], of[3]);
            }
            x.limit(limit);
            y.limit(limit);
            for (int pile : new int[] {2, 0, 3, 1, 4}) {
                dueAlike("LIMIT " + limit, x, y);
                x.count(pile);
                y.count(pile);
            }
            dueAlike("LIMIT " + limit, x, y);
            CHECKS.due("stop()", y.stop(), x.stop());
        }
    }

    private static void dueAlike(String when, PileRecount x, PileRecount y) {
        CHECKS.due(when + ": winners", x.state(2) + y.state(2), 1);
        for (int what = 3; what <= 9; what++) {
            CHECKS.due(when + ": state(" + what + ")", y.state(what), x.state(what));
        }
        for (int draws = 0; draws <= 5; draws++) {
            CHECKS.due(when + ": orders(" + draws + ")", y.orders(draws), x.orders(draws));
        }
        CHECKS.due(when + ": wrongOrders()", y.wrongOrders(), x.wrongOrders());
        CHECKS.due(when + ": atLeast()", y.atLeast(), x.atLeast());
        CHECKS.due(when + ": suspects()", y.suspects(), x.suspects());
    }
}
