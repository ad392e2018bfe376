/** Promises 6 to 12: each sentence that names a boundary case. */
public final class EdgesOfRecountTest {
    private static final Checks CHECKS = new Checks();
    private static final int NONE = PileRecount.NONE;
    private static final int NOT_POSSIBLE = PileRecount.NOT_POSSIBLE;

    public static void main(String[] arguments) {
        drawUntilAllAreCounted();
        drawOnThoughOneMayStop();
        drawWithoutAWinner();
        countTheFirstAndTheLast();
        countLeavesTheNumber();
        countOnThoughOneMayStop();
        countErrorsInTheirOrder();
        finishWithoutADraw();
        finishWithAllDraws();
        finishOnTheWay();
        finishNever();
        finishIsOneChange();
        stopAtTheLimit();
        stopRightByOneVote();
        stopOnce();
        ofPileOfTheFirstAndTheLast();
        ofPileNones();
        ofPilePlaces();
        stateOfNothing();
        stateOfAsMuchAsThereCanBe();
        stateOutOfRange();
        countedPlaces();
        CHECKS.end("EdgesOfRecountTest");
    }

    private static PileRecount even(int piles, int limit) {
        PileRecount x = Situations.even(piles);
        x.limit(limit);
        return x;
    }

    /** "NOT_POSSIBLE if .. all piles are counted": ten draws, and one. */
    private static void drawUntilAllAreCounted() {
        for (int piles : new int[] {1, 10}) {
            PileRecount x = Situations.even(piles);
            for (int drawn = 1; drawn <= piles; drawn++) {
                int pile = x.draw();
                CHECKS.due("draw " + drawn, x.ofPile(pile, 4), drawn - 1);
                CHECKS.due("counted", x.state(1), drawn);
            }
            int number = x.state(11);
            CHECKS.due("draw behind " + piles, x.draw(), NOT_POSSIBLE);
            CHECKS.due("the number stays", x.state(11), number);
            CHECKS.due("changes", x.state(13), Math.min(6, 2 * piles));
        }
    }

    /** That one may stop is no reason not to draw. */
    private static void drawOnThoughOneMayStop() {
        PileRecount x = even(5, 8000);
        x.draw();
        CHECKS.due("one may stop", x.state(9), 1);
        CHECKS.due("draw()", x.draw(), 2);
        CHECKS.due("not stopped", x.state(8), 0);
        x.stop();
        CHECKS.due("draw() behind a stop", x.draw(), NOT_POSSIBLE);
        x.undo();
        CHECKS.due("draw() behind an undone stop", x.draw(), 0);
    }

    /** "NOT_POSSIBLE if there is no winner": as many votes, one less, one more. */
    private static void drawWithoutAWinner() {
        for (int one = 9; one <= 11; one++) {
            PileRecount x = new PileRecount();
            x.pile(10, 0, 0);
            x.pile(0, one, 0);
            CHECKS.due("draw() with 10 to " + one, x.draw(), one == 10 ? NOT_POSSIBLE : 0);
            CHECKS.due("count(1) with 10 to " + one, x.count(1), one == 10 ? NOT_POSSIBLE : 2);
        }
        CHECKS.due("draw() without piles", new PileRecount().draw(), NOT_POSSIBLE);
    }

    /** "Returns how many piles are counted then": from 1 to 10. */
    private static void countTheFirstAndTheLast() {
        PileRecount x = Situations.even(10);
        int counted = 0;
        for (int pile : new int[] {9, 0, 5, 1, 8, 2, 7, 3, 6, 4}) {
            counted++;
            CHECKS.due("count(" + pile + ")", x.count(pile), counted);
            CHECKS.due("its place", x.ofPile(pile, 4), counted - 1);
            CHECKS.due("count(" + pile + ") again", x.count(pile), NOT_POSSIBLE);
        }
        CHECKS.due("count(10)", x.count(10), PileRecount.NO_SUCH);
        CHECKS.due("count(-1)", x.count(-1), PileRecount.NO_SUCH);
        CHECKS.due("all are counted", x.state(1), 10);
    }

    /** "out of turn (the number that chooses stays)" */
    private static void countLeavesTheNumber() {
        PileRecount x = Situations.even(5);
        x.count(4);
        CHECKS.due("the number", x.state(11), 1);
        CHECKS.due("place 16838 left over by 4, of 0 to 3", x.draw(), 2);
        x.count(0);
        CHECKS.due("the number", x.state(11), 1103527590);
        CHECKS.due("place 5758 left over by 2, of 1 and 3", x.draw(), 1);
    }

    private static void countOnThoughOneMayStop() {
        PileRecount x = even(3, 9999);
        x.count(0);
        CHECKS.due("one may stop", x.state(9), 1);
        CHECKS.due("count(1)", x.count(1), 2);
        CHECKS.due("stop()", x.stop(), 1);
        CHECKS.due("count(2) behind a stop", x.count(2), NOT_POSSIBLE);
    }

    /** "NO_SUCH if there is no such pile; NOT_POSSIBLE if there is no winner, it is counted, or it was stopped" */
    private static void countErrorsInTheirOrder() {
        CHECKS.due("no pile, no winner", new PileRecount().count(0), PileRecount.NO_SUCH);
        CHECKS.due("no such pile, no winner", Situations.tie().count(1), PileRecount.NO_SUCH);
        CHECKS.due("no winner", Situations.tie().count(0), NOT_POSSIBLE);
        CHECKS.due("no such pile, stopped", Situations.stopped().count(5), PileRecount.NO_SUCH);
        CHECKS.due("below 0, stopped", Situations.stopped().count(-1), PileRecount.NO_SUCH);
        CHECKS.due("stopped", Situations.stopped().count(4), NOT_POSSIBLE);
    }

    /** "Returns how many piles are drawn": none, if one may stop; and it stops. */
    private static void finishWithoutADraw() {
        PileRecount x = even(5, 8000);
        x.draw();
        CHECKS.due("one may stop", x.finish(), 0);
        CHECKS.due("counted", x.state(1), 1);
        CHECKS.due("the number stays", x.state(11), 1103527590);
        CHECKS.due("stopped", x.state(8), 1);
        x = even(2, 1);
        x.count(0);
        x.count(1);
        CHECKS.due("all are counted", x.finish(), 0);
        CHECKS.due("stopped", x.state(8), 1);
    }

    /** "behind all piles": ten draws, and one. */
    private static void finishWithAllDraws() {
        PileRecount x = even(10, 999);
        CHECKS.due("ten draws", x.finish(), 10);
        CHECKS.due("counted", x.state(1), 10);
        CHECKS.due("the number", x.state(11), 267834847);
        CHECKS.due("the last place", x.counted(9), 9);
        x = even(10, 1000);
        CHECKS.due("nine draws", x.finish(), 9);
        CHECKS.due("not counted", x.ofPile(9, 4), NONE);
        x = even(1, 500);
        CHECKS.due("one draw", x.finish(), 1);
        x = even(3, 3333);
        x.finds(1, 18, 19);
        CHECKS.due("a worse pile, and a true lead of 1", x.finish(), 3);
        CHECKS.due("risk", x.state(6), 0);
    }

    /** "one may stop neither on the way": one does stop there, though the outcome is not right. */
    private static void finishOnTheWay() {
        PileRecount x = even(5, 8000);
        x.finds(0, 0, 39);
        CHECKS.due("behind pile 3", x.finish(), 1);
        CHECKS.due("stopped", x.state(8), 1);
        CHECKS.due("not one draw more", x.state(11), 1103527590);
        x = even(5, 8000);
        x.finds(3, 0, 39);
        CHECKS.due("the worse pile is drawn first", x.finish(), NOT_POSSIBLE);
        x.count(0);
        CHECKS.due("but one may stop behind another", x.finish(), 0);
    }

    /** "NOT_POSSIBLE if .. one may stop neither on the way nor behind all piles": nothing is drawn then. */
    private static void finishNever() {
        for (int found = 17; found <= 19; found++) {
            PileRecount x = even(3, 3333);
            x.finds(1, found, 20);
            int trueLead = found - 18;
            CHECKS.due("finish() with a true lead of " + trueLead, x.finish(), trueLead > 0 ? 3 : NOT_POSSIBLE);
            CHECKS.due("counted", x.state(1), trueLead > 0 ? 3 : 0);
            CHECKS.due("stopped", x.state(8), trueLead > 0 ? 1 : 0);
            CHECKS.due("the number", x.state(11), trueLead > 0 ? 662824084 : 1);
        }
    }

    /** "This is a change": one, however many piles are drawn. */
    private static void finishIsOneChange() {
        PileRecount x = even(3, 1);
        CHECKS.due("changes", x.state(13), 4);
        CHECKS.due("three draws", x.finish(), 3);
        CHECKS.due("changes", x.state(13), 5);
        CHECKS.due("undo()", x.undo(), 4);
        CHECKS.dueStates("undone", x, 3, 0, 0, 100003, 100003, 1, 10000, 0, 0, 0, 1, 1, 0, 4);
        CHECKS.due("no place", x.counted(0), PileRecount.NO_SUCH);
    }

    /** "NOT_POSSIBLE if .. one may not stop": a risk of LIMIT, and of 1 more. */
    private static void stopAtTheLimit() {
        int[][] limits = {{8000, 1}, {7999, NOT_POSSIBLE}, {8001, 1}, {9999, 1}, {1, NOT_POSSIBLE}};
        for (int[] of : limits) {
            PileRecount x = even(5, of[0]);
            CHECKS.due("none counted, LIMIT " + of[0], x.stop(), NOT_POSSIBLE);
            x.count(2);
            CHECKS.due("a risk of 8000, LIMIT " + of[0], x.stop(), of[1]);
            CHECKS.due("stopped, LIMIT " + of[0], x.state(8), of[1] == 1 ? 1 : 0);
        }
        CHECKS.due("all counted, a lead of 0", Situations.allWrong().stop(), NOT_POSSIBLE);
        CHECKS.due("all counted, a lead above 0", Situations.allRight().stop(), 1);
    }

    /** "Returns 1 if the outcome is right, otherwise 0" */
    private static void stopRightByOneVote() {
        for (int found = 17; found <= 19; found++) {
            PileRecount x = even(3, 9999);
            x.finds(1, found, 20);
            x.count(2);
            CHECKS.due("stop() with a true lead of " + (found - 18), x.stop(), found == 19 ? 1 : 0);
        }
    }

    /** "or it was stopped" */
    private static void stopOnce() {
        PileRecount x = even(3, 9999);
        x.count(0);
        CHECKS.due("stop()", x.stop(), 1);
        int changes = x.state(13);
        CHECKS.due("stop() again", x.stop(), NOT_POSSIBLE);
        CHECKS.due("finish() behind it", x.finish(), NOT_POSSIBLE);
        CHECKS.due("changes", x.state(13), changes);
        x.undo();
        CHECKS.due("finish() behind the undo", x.finish(), 0);
        CHECKS.due("stop() behind it", x.stop(), NOT_POSSIBLE);
    }

    /** "NO_SUCH if there is no such pile; BAD_VALUE if what is out of range" */
    private static void ofPileOfTheFirstAndTheLast() {
        for (int piles : new int[] {1, 10}) {
            PileRecount x = Situations.even(piles);
            for (int pile : new int[] {0, piles - 1}) {
                CHECKS.due("the first number", x.ofPile(pile, 0), 20);
                CHECKS.due("the last number", x.ofPile(pile, 8), 40);
                CHECKS.due("below the first", x.ofPile(pile, -1), PileRecount.BAD_VALUE);
                CHECKS.due("above the last", x.ofPile(pile, 9), PileRecount.BAD_VALUE);
            }
            CHECKS.due("no such pile", x.ofPile(piles, 0), PileRecount.NO_SUCH);
            CHECKS.due("no such pile, out of range", x.ofPile(piles, 9), PileRecount.NO_SUCH);
            CHECKS.due("below the first pile", x.ofPile(-1, 8), PileRecount.NO_SUCH);
        }
    }

    /** "(NONE if it is not counted)", "(NONE if it is counted, or there is no winner)" */
    private static void ofPileNones() {
        PileRecount x = new PileRecount();
        x.pile(4, 4, 4);
        int[] noWinner = {4, 4, 4, 12, NONE, NONE, NONE, 0, NONE};
        int[] notCounted = {4, 4, 4, 12, NONE, NONE, NONE, 0, 12};
        int[] counted = {4, 4, 4, 12, 0, 0, 12, 1, NONE};
        dueOfPile("no winner", x, noWinner);
        x.pile(13, 0, 0);
        dueOfPile("not counted", x, notCounted);
        x.finds(0, 0, 12);
        dueOfPile("not counted, and found", x, notCounted);
        x.count(0);
        dueOfPile("counted", x, counted);
    }

    private static void dueOfPile(String when, PileRecount x, int... want) {
        for (int what = 0; what < want.length; what++) {
            CHECKS.due(when + ": ofPile(0, " + what + ")", x.ofPile(0, what), want[what]);
        }
    }

    /** "4 the place in which it was counted, from 0 on" */
    private static void ofPilePlaces() {
        PileRecount x = Situations.even(10);
        for (int place = 0; place < 10; place++) {
            CHECKS.due("before", x.ofPile(9 - place, 4), NONE);
            x.count(9 - place);
            CHECKS.due("the place", x.ofPile(9 - place, 4), place);
            CHECKS.due("the place of the first", x.ofPile(9, 4), 0);
        }
    }

    /** No piles, no winner, no pad, nothing to undo: 0, NONE and 10000. */
    private static void stateOfNothing() {
        CHECKS.dueStates("nothing", new PileRecount(), 0, 0, NONE, NONE, NONE, NONE, 10000, 0, 0, 0, 500, 1, 0, 0);
        PileRecount x = Situations.tie();
        CHECKS.dueStates("a tie", x, 1, 0, NONE, NONE, NONE, NONE, 10000, 0, 0, 0, 500, 1, 5, 2);
        x = new PileRecount();
        x.pile(0, 0, 0);
        CHECKS.dueStates("no votes", x, 1, 0, NONE, NONE, NONE, NONE, 10000, 0, 0, 0, 500, 1, 0, 1);
    }

    /** Ten piles, all of them counted and worse, a full pad, six changes, the greatest seed and LIMIT. */
    private static void stateOfAsMuchAsThereCanBe() {
        PileRecount x = new PileRecount();
        for (int i = 0; i < 10; i++) {
            x.pile(0, 200, 200);
        }
        x.limit(9999);
        x.seed(2147483647);
        for (int i = 0; i < 10; i++) {
            x.put(Checks.packed("12345678"));
        }
        CHECKS.dueStates("none counted", x, 10, 0, 1, 102000, 102000, 4, 10000, 0, 0, 0, 9999, 2147483647, 80, 6);
        for (int i = 0; i < 10; i++) {
            x.finds(i, 0, 199);
            x.count(i);
        }
        CHECKS.dueStates("all worse", x, 10, 10, 1, 102000, 101990, NONE, 0, 10, 0, 1, 9999, 2147483647, 80, 6);
        x.stop();
        CHECKS.dueStates("stopped", x, 10, 10, 1, 102000, 101990, NONE, 0, 10, 1, 1, 9999, 2147483647, 80, 6);
    }

    /** "BAD_VALUE if what is out of range" */
    private static void stateOutOfRange() {
        PileRecount x = new PileRecount();
        CHECKS.due("the first", x.state(0), 0);
        CHECKS.due("below the first", x.state(-1), PileRecount.BAD_VALUE);
        CHECKS.due("the last", x.state(13), 0);
        CHECKS.due("above the last", x.state(14), PileRecount.BAD_VALUE);
    }

    /** "NO_SUCH if there is no such place": none, one and ten counted. */
    private static void countedPlaces() {
        PileRecount x = Situations.even(10);
        for (int counted = 0; counted <= 10; counted++) {
            CHECKS.due("below the first place", x.counted(-1), PileRecount.NO_SUCH);
            CHECKS.due("behind the last place of " + counted, x.counted(counted), PileRecount.NO_SUCH);
            CHECKS.due("place 10", x.counted(10), PileRecount.NO_SUCH);
            for (int place = 0; place < counted; place++) {
                CHECKS.due("place " + place + " of " + counted, x.counted(place), (3 * place + 1) % 10);
            }
            x.count((3 * counted + 1) % 10);
        }
        x.undo();
        CHECKS.due("an undone place", x.counted(9), PileRecount.NO_SUCH);
    }
}
