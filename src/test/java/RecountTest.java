/** Promises 6 to 9: draw, count, finish, stop. */
public final class RecountTest {
    private static final Checks CHECKS = new Checks();

    public static void main(String[] arguments) {
        drawAnswers();
        drawOfAGreatNumber();
        drawAtTheEdges();
        drawErrors();
        countAnswers();
        countErrors();
        finishAnswers();
        finishWithoutDraws();
        finishThatMayNeverStop();
        finishBehindAWorsePile();
        stopAnswers();
        stopErrors();
        CHECKS.end("RecountTest");
    }

    private static PileRecount withPiles(int piles) {
        PileRecount x = new PileRecount();
        for (int i = 0; i < piles; i++) {
            x.pile(100, 90, 0);
        }
        return x;
    }

    /** The numbers behind seed 1 are 1103527590, 377401575, 662824084; by 65536: 16838, 5758, 10113. */
    private static void drawAnswers() {
        PileRecount x = withPiles(5);
        CHECKS.due("first draw, place 3 of 5", x.draw(), 3);
        CHECKS.due("the number", x.state(11), 1103527590);
        CHECKS.due("second draw, place 2 of 4", x.draw(), 2);
        CHECKS.due("the number", x.state(11), 377401575);
        CHECKS.due("third draw, place 0 of 3", x.draw(), 0);
        CHECKS.due("the number", x.state(11), 662824084);
        CHECKS.due("two are left", x.draw() + x.draw(), 5);
        CHECKS.due("counted(0)", x.counted(0), 3);
        CHECKS.due("counted(1)", x.counted(1), 2);
        CHECKS.due("counted(2)", x.counted(2), 0);
        CHECKS.due("all are counted", x.draw(), PileRecount.NOT_POSSIBLE);
        CHECKS.due("draws are changes", x.state(13), 6);
    }

    private static void drawOfAGreatNumber() {
        PileRecount x = withPiles(2);
        x.seed(2147483647);
        // (2147483647 * 1103515245 + 12345) left over by 2147483648 is 1043980748; by 65536: 15929
        CHECKS.due("draw by a great number", x.draw(), 1);
        CHECKS.due("the number", x.state(11), 1043980748);
        x = withPiles(10);
        x.seed(0);
        // 12345 by 65536: 0
        CHECKS.due("draw by 0", x.draw(), 0);
        CHECKS.due("the number", x.state(11), 12345);
    }

    /** Seeds, the numbers that they become (at multiples of 65536, and one below), and the piles. */
    private static void drawAtTheEdges() {
        int[][] edges = {{576240414, 2147418111, 6}, {286434947, 2147418112, 7}, {230538014, 2147483647, 7},
            {1815783043, 458752, 7}, {2105588510, 458751, 6}, {2088216195, 0, 0}};
        for (int[] edge : edges) {
            PileRecount x = withPiles(10);
            x.seed(edge[0]);
            CHECKS.due("draw by " + edge[0], x.draw(), edge[2]);
            CHECKS.due("the number behind " + edge[0], x.state(11), edge[1]);
        }
    }

    private static void drawErrors() {
        PileRecount x = new PileRecount();
        CHECKS.due("draw without piles", x.draw(), PileRecount.NOT_POSSIBLE);
        x.pile(5, 5, 0);
        CHECKS.due("draw without a winner", x.draw(), PileRecount.NOT_POSSIBLE);
        CHECKS.due("the number stays", x.state(11), 1);
        x = withPiles(2);
        x.limit(9999);
        x.draw();
        x.stop();
        CHECKS.due("draw when it was stopped", x.draw(), PileRecount.NOT_POSSIBLE);
        CHECKS.due("one is counted", x.state(1), 1);
        CHECKS.due("the number stays", x.state(11), 1103527590);
    }

    private static void countAnswers() {
        PileRecount x = withPiles(4);
        CHECKS.due("count(2)", x.count(2), 1);
        CHECKS.due("count(0)", x.count(0), 2);
        CHECKS.due("the number stays", x.state(11), 1);
        CHECKS.due("counted(0)", x.counted(0), 2);
        CHECKS.due("counted(1)", x.counted(1), 0);
        // 16838 left over by 2 is 0: of the piles 1 and 3 the lower one
        CHECKS.due("draw of the others", x.draw(), 1);
        CHECKS.due("count(3)", x.count(3), 4);
        CHECKS.due("counts are changes", x.state(13), 6);
    }

    private static void countErrors() {
        PileRecount x = new PileRecount();
        CHECKS.due("count without piles", x.count(0), PileRecount.NO_SUCH);
        x.pile(5, 5, 0);
        CHECKS.due("count without a winner", x.count(0), PileRecount.NOT_POSSIBLE);
        CHECKS.due("no such pile before no winner", x.count(1), PileRecount.NO_SUCH);
        x = withPiles(2);
        CHECKS.due("count(-1)", x.count(-1), PileRecount.NO_SUCH);
        CHECKS.due("count(2)", x.count(2), PileRecount.NO_SUCH);
        x.limit(9999);
        x.count(1);
        CHECKS.due("count it again", x.count(1), PileRecount.NOT_POSSIBLE);
        x.stop();
        CHECKS.due("count when it was stopped", x.count(0), PileRecount.NOT_POSSIBLE);
        CHECKS.due("no such pile before stopped", x.count(2), PileRecount.NO_SUCH);
        CHECKS.due("one is counted", x.state(1), 1);
        CHECKS.due("errors are no changes", x.state(13), 5);
    }

    private static void finishAnswers() {
        PileRecount x = withPiles(5);
        x.limit(4000);
        // The need is 1: behind 3 of 5 piles the risk is 4000.
        CHECKS.due("finish()", x.finish(), 3);
        CHECKS.due("risk", x.state(6), 4000);
        CHECKS.due("stopped", x.state(8), 1);
        CHECKS.due("counted", x.state(1), 3);
        CHECKS.due("the number", x.state(11), 662824084);
        CHECKS.due("finish again", x.finish(), PileRecount.NOT_POSSIBLE);
        CHECKS.due("one change", x.undo(), 5);
        CHECKS.due("counted behind the undo", x.state(1), 0);
        CHECKS.due("not stopped behind the undo", x.state(8), 0);
        CHECKS.due("the number behind the undo", x.state(11), 1);
        x.draw();
        CHECKS.due("finish behind a draw", x.finish(), 2);
        CHECKS.due("the same piles", x.counted(2), 0);
    }

    private static void finishWithoutDraws() {
        PileRecount x = withPiles(5);
        x.limit(8000);
        x.count(4);
        CHECKS.due("finish with nothing to draw", x.finish(), 0);
        CHECKS.due("stopped", x.state(8), 1);
        CHECKS.due("the number stays", x.state(11), 1);
        x = withPiles(1);
        x.count(0);
        CHECKS.due("finish with all counted", x.finish(), 0);
    }

    private static void finishThatMayNeverStop() {
        PileRecount x = new PileRecount();
        CHECKS.due("finish without piles", x.finish(), PileRecount.NOT_POSSIBLE);
        x.pile(5, 5, 0);
        CHECKS.due("finish without a winner", x.finish(), PileRecount.NOT_POSSIBLE);
        x.pile(10, 0, 0);
        x.finds(1, 0, 10);
        CHECKS.due("finish of a wrong outcome", x.finish(), PileRecount.NOT_POSSIBLE);
        CHECKS.due("nothing is counted", x.state(1), 0);
        CHECKS.due("it was not stopped", x.state(8), 0);
        CHECKS.due("the number stays", x.state(11), 1);
        CHECKS.due("errors are no changes", x.state(13), 3);
        x.finds(1, 5, 5);
        CHECKS.due("finish with a true lead of 0", x.finish(), PileRecount.NOT_POSSIBLE);
        x.finds(1, 5, 4);
        CHECKS.due("finish with a true lead of 1", x.finish(), 2);
    }

    private static void finishBehindAWorsePile() {
        PileRecount x = withPiles(5);
        x.limit(4000);
        x.finds(3, 99, 90);
        CHECKS.due("all has to be counted", x.finish(), 5);
        CHECKS.due("worse piles", x.state(7), 1);
        CHECKS.due("risk", x.state(6), 0);
    }

    private static void stopAnswers() {
        PileRecount x = withPiles(3);
        x.limit(5000);
        x.count(0);
        CHECKS.due("stop at 6667", x.stop(), PileRecount.NOT_POSSIBLE);
        x.count(1);
        CHECKS.due("stop at 3334", x.stop(), 1);
        CHECKS.due("stopped", x.state(8), 1);
        CHECKS.due("stop again", x.stop(), PileRecount.NOT_POSSIBLE);
        CHECKS.due("one change", x.undo(), 5);
        CHECKS.due("not stopped", x.state(8), 0);
        x.finds(2, 0, 190);
        CHECKS.due("stop with a wrong outcome", x.stop(), 0);
        x.undo();
        x.finds(2, 79, 99);
        CHECKS.due("a true lead of 0 is not right", x.stop(), 0);
        x.undo();
        x.finds(2, 79, 98);
        CHECKS.due("a true lead of 1 is right", x.stop(), 1);
    }

    private static void stopErrors() {
        PileRecount x = new PileRecount();
        CHECKS.due("stop without piles", x.stop(), PileRecount.NOT_POSSIBLE);
        x.pile(5, 5, 0);
        CHECKS.due("stop without a winner", x.stop(), PileRecount.NOT_POSSIBLE);
        x = withPiles(1);
        x.limit(9999);
        CHECKS.due("stop at 10000", x.stop(), PileRecount.NOT_POSSIBLE);
        x.finds(0, 90, 100);
        x.count(0);
        CHECKS.due("stop with all counted and wrong", x.stop(), PileRecount.NOT_POSSIBLE);
        CHECKS.due("it was not stopped", x.state(8), 0);
    }
}
