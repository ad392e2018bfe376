/** 'Terms': each sentence that names a boundary case, in the document's order, and the piles at its edge. */
public final class EdgesOfTermsTest {
    private static final Checks CHECKS = new Checks();
    private static final int NONE = PileRecount.NONE;

    public static void main(String[] arguments) {
        usedFor512Calls();
        noneOnlyIfNoErrorApplies();
        numberedFromZero();
        toldWith100000More();
        upToTenPiles();
        zeroTo200Each();
        sizeIsTheSum();
        togetherAtMostTheSize();
        atFirstTheReportedOnes();
        countedWhenDrawn();
        winnerByOneVote();
        noWinnerWithAsMany();
        winnerByReportedVotesAlone();
        leadByWhatIsFoundAndReported();
        rightAboveZero();
        CHECKS.end("EdgesOfTermsTest");
    }

    private static PileRecount with(int[]... piles) {
        PileRecount x = new PileRecount();
        for (int[] pile : piles) {
            x.pile(pile[0], pile[1], pile[2]);
        }
        return x;
    }

    /** "An object is used for at most 512 calls": the last of them answers as ever. */
    private static void usedFor512Calls() {
        PileRecount x = Situations.even(4);
        for (int i = 0; i < 101; i++) {
            x.draw();
            x.save(i % 2);
            x.undo();
            x.restore(i % 2);
            x.undo();
        }
        CHECKS.due("call 510: undo()", x.undo(), 3);
        CHECKS.due("call 511: pile(5, 3, 1)", x.pile(5, 3, 1), 3);
        CHECKS.due("call 512: orders(4)", x.orders(4), 24);
    }

    /** "NONE (-6) is not an error; it is returned only if no error applies." */
    private static void noneOnlyIfNoErrorApplies() {
        PileRecount x = with(new int[] {5, 5, 0});
        CHECKS.due("ofPile(0, 8) without a winner", x.ofPile(0, 8), NONE);
        CHECKS.due("ofPile(1, 8) without a winner", x.ofPile(1, 8), PileRecount.NO_SUCH);
        CHECKS.due("ofPile(0, 9) without a winner", x.ofPile(0, 9), PileRecount.BAD_VALUE);
        CHECKS.due("state(2) without a winner", x.state(2), NONE);
        CHECKS.due("state(14) without a winner", x.state(14), PileRecount.BAD_VALUE);
        CHECKS.due("suspects() without a winner", x.suspects(), PileRecount.NOT_POSSIBLE);
        CHECKS.due("atLeast() without a winner", x.atLeast(), PileRecount.NOT_POSSIBLE);
        x.put('x');
        CHECKS.due("fault() is no error, and 0 is a fault", x.fault(), 0);
    }

    /** "Everything is numbered from 0." */
    private static void numberedFromZero() {
        PileRecount x = new PileRecount();
        CHECKS.due("the first pile", x.pile(1, 0, 0), 0);
        CHECKS.due("the side of its vote", x.state(2), 0);
        CHECKS.due("the second pile", x.pile(0, 2, 0), 1);
        CHECKS.due("the other side", x.state(2), 1);
        x.count(1);
        CHECKS.due("the first place", x.ofPile(1, 4), 0);
        CHECKS.due("the first counted pile", x.counted(0), 1);
        CHECKS.due("the first slot", x.save(0), 1);
        CHECKS.due("the second slot", x.save(1), 1);
    }

    /** "Numbers that can be below 0 are told with 100000 more": the least and the greatest of them. */
    private static void toldWith100000More() {
        dueLeads(200, 199, 0, 599, 99400, 100010, 94010);
        dueLeads(200, 199, 599, 0, 100598, 100010, 105990);
        dueLeads(199, 200, 599, 0, 100600, 100010, 94010);
        dueLeads(199, 200, 0, 599, 99402, 100010, 105990);
        dueLeads(200, 0, 200, 0, 100000, 102000, 102000);
        dueLeads(0, 200, 0, 400, 99800, 102000, 104000);
        dueLeads(1, 0, 0, 1, 99998, 100010, 99990);
    }

    private static void dueLeads(int zero, int one, int foundZero, int foundOne, int finds, int reported, int lead) {
        PileRecount x = new PileRecount();
        for (int i = 0; i < 10; i++) {
            x.pile(zero, one, 200);
        }
        String what = "ten piles " + zero + ", " + one + " = " + foundZero + ", " + foundOne;
        for (int i = 0; i < 10; i++) {
            CHECKS.due(what + ": finds of " + i, x.finds(i, foundZero, foundOne), finds);
            x.count(i);
        }
        CHECKS.due(what + ": state(3)", x.state(3), reported);
        CHECKS.due(what + ": state(4)", x.state(4), lead);
    }

    /** "There are up to 10 piles, numbered in the order in which they were made." */
    private static void upToTenPiles() {
        PileRecount x = new PileRecount();
        CHECKS.due("no pile", x.state(0), 0);
        for (int i = 0; i < 10; i++) {
            CHECKS.due("the number of pile " + i, x.pile(10 - i, 0, i), i);
            CHECKS.due("piles", x.state(0), i + 1);
        }
        CHECKS.due("one more", x.pile(0, 0, 0), PileRecount.TOO_MANY);
        CHECKS.due("piles", x.state(0), 10);
        CHECKS.due("the first pile", x.ofPile(0, 0), 10);
        CHECKS.due("the last pile", x.ofPile(9, 0), 1);
        CHECKS.due("the last pile's blanks", x.ofPile(9, 2), 9);
        CHECKS.due("no pile 10", x.ofPile(10, 0), PileRecount.NO_SUCH);
    }

    /** "A pile has reported votes for the side 0 and for the side 1, and blanks (0 to 200 each)". */
    private static void zeroTo200Each() {
        int[] edges = {0, 200, 1, 199};
        PileRecount x = new PileRecount();
        for (int argument = 0; argument < 3; argument++) {
            for (int edge : edges) {
                int[] votes = {7, 8, 9};
                votes[argument] = edge;
                String pile = "pile(" + votes[0] + ", " + votes[1] + ", " + votes[2] + ")";
                CHECKS.due(pile, x.pile(votes[0], votes[1], votes[2]), 0);
                CHECKS.due(pile + ", " + argument, x.ofPile(0, argument), edge);
                x.undo();
                for (int below : new int[] {-1, 201}) {
                    votes[argument] = below;
                    CHECKS.due("but " + below, x.pile(votes[0], votes[1], votes[2]), PileRecount.BAD_VALUE);
                }
            }
        }
    }

    /** "its size is the sum of these three" */
    private static void sizeIsTheSum() {
        PileRecount x = with(new int[] {0, 0, 0}, new int[] {200, 200, 200}, new int[] {200, 0, 0},
            new int[] {0, 200, 0}, new int[] {0, 0, 200}, new int[] {1, 20, 100});
        int[] sizes = {0, 600, 200, 200, 200, 121};
        for (int pile = 0; pile < sizes.length; pile++) {
            CHECKS.due("size of " + pile, x.ofPile(pile, 3), sizes[pile]);
        }
    }

    /** "A recount of the pile finds votes for both sides, which are together at most its size" */
    private static void togetherAtMostTheSize() {
        PileRecount x = with(new int[] {3, 1, 2}, new int[] {0, 0, 0}, new int[] {200, 200, 200});
        int[][] most = {{0, 6, 0}, {0, 0, 6}, {0, 1, 5}, {0, 3, 3}, {1, 0, 0}, {2, 600, 0}, {2, 0, 600}, {2, 300, 300}};
        for (int[] of : most) {
            int reported = of[0] == 0 ? 2 : 0;
            String call = "finds(" + of[0] + ", " + of[1] + ", " + of[2] + ")";
            CHECKS.due(call, x.finds(of[0], of[1], of[2]), 100000 + of[1] - of[2] - reported);
            CHECKS.due(call + " and one for 0", x.finds(of[0], of[1] + 1, of[2]), PileRecount.BAD_VALUE);
            CHECKS.due(call + " and one for 1", x.finds(of[0], of[1], of[2] + 1), PileRecount.BAD_VALUE);
        }
    }

    /** "at first it finds the reported ones" */
    private static void atFirstTheReportedOnes() {
        PileRecount x = with(new int[] {200, 3, 0}, new int[] {0, 0, 200}, new int[] {0, 196, 0});
        int[][] found = {{200, 3}, {0, 0}, {0, 196}};
        for (int pile = 0; pile < found.length; pile++) {
            x.count(pile);
            CHECKS.due("found for 0 in " + pile, x.ofPile(pile, 5), found[pile][0]);
            CHECKS.due("found for 1 in " + pile, x.ofPile(pile, 6), found[pile][1]);
        }
        CHECKS.due("the outcome is right by 1 vote", x.state(4), 100001);
        CHECKS.due("stop()", x.stop(), 1);
    }

    /** "A pile is counted when it is drawn." */
    private static void countedWhenDrawn() {
        PileRecount x = Situations.even(2);
        CHECKS.due("none is counted", x.state(1), 0);
        int drawn = x.draw();
        CHECKS.due("one is counted", x.state(1), 1);
        CHECKS.due("its place", x.ofPile(drawn, 4), 0);
        CHECKS.due("the other one is not", x.ofPile(1 - drawn, 4), NONE);
    }

    /** "The winner is the side with more reported votes in all piles" */
    private static void winnerByOneVote() {
        CHECKS.due("1 to 0", with(new int[] {1, 0, 0}).state(2), 0);
        CHECKS.due("0 to 1", with(new int[] {0, 1, 0}).state(2), 1);
        CHECKS.due("200 to 199", with(new int[] {200, 199, 0}).state(2), 0);
        CHECKS.due("199 to 200", with(new int[] {199, 200, 0}).state(2), 1);
        CHECKS.due("5 to 4 in two", with(new int[] {5, 0, 0}, new int[] {0, 4, 0}).state(2), 0);
        CHECKS.due("4 to 5 in two", with(new int[] {4, 0, 0}, new int[] {0, 5, 0}).state(2), 1);
        CHECKS.due("a pile more, but a vote less", with(new int[] {1, 0, 0}, new int[] {1, 0, 0},
            new int[] {0, 3, 0}).state(2), 1);
        CHECKS.due("blanks are no votes", with(new int[] {1, 0, 0}, new int[] {0, 2, 200}).state(2), 1);
    }

    /** "with as many there is no winner" */
    private static void noWinnerWithAsMany() {
        CHECKS.due("no piles", with().state(2), NONE);
        CHECKS.due("no votes", with(new int[] {0, 0, 0}).state(2), NONE);
        CHECKS.due("blanks alone", with(new int[] {0, 0, 200}).state(2), NONE);
        CHECKS.due("200 to 200", with(new int[] {200, 200, 200}).state(2), NONE);
        CHECKS.due("5 to 5 in two", with(new int[] {5, 0, 0}, new int[] {0, 5, 0}).state(2), NONE);
        PileRecount x = with(new int[] {5, 0, 0}, new int[] {0, 5, 0});
        CHECKS.dueStates("as many", x, 2, 0, NONE, NONE, NONE, NONE, 10000, 0, 0, 0, 500, 1, 0, 2);
        CHECKS.due("no swing without a winner", x.ofPile(0, 8), NONE);
    }

    /** The winner is that of the reported votes, whatever is found. */
    private static void winnerByReportedVotesAlone() {
        PileRecount x = with(new int[] {6, 5, 0}, new int[] {5, 5, 0});
        x.finds(0, 0, 11);
        x.finds(1, 0, 10);
        CHECKS.due("not by what would be found", x.state(2), 0);
        x.count(0);
        x.count(1);
        CHECKS.due("nor by what was found", x.state(2), 0);
        CHECKS.due("the reported lead", x.state(3), 100001);
        CHECKS.due("the lead", x.state(4), 99979);
        x = with(new int[] {5, 5, 0});
        x.finds(0, 10, 0);
        CHECKS.due("no winner by what would be found", x.state(2), NONE);
    }

    /** "of those that are counted by what the recount found, of the others by what is reported" */
    private static void leadByWhatIsFoundAndReported() {
        PileRecount x = with(new int[] {0, 50, 0}, new int[] {20, 0, 0}, new int[] {0, 7, 0});
        x.finds(0, 1, 49);
        x.finds(1, 17, 3);
        x.finds(2, 7, 0);
        CHECKS.due("none counted", x.state(4), 100037);
        x.count(1);
        CHECKS.due("pile 1 counted", x.state(4), 100043);
        x.count(0);
        CHECKS.due("piles 0 and 1 counted", x.state(4), 100041);
        x.count(2);
        CHECKS.due("all counted", x.state(4), 100027);
        CHECKS.due("the reported lead", x.state(3), 100037);
    }

    /** "The outcome is right if the true lead is above 0." */
    private static void rightAboveZero() {
        int[][] found = {{0, 1, 1}, {1, 1, 0}, {2, 1, 0}, {1, 0, 1}, {0, 0, 0}};
        for (int[] of : found) {
            PileRecount x = with(new int[] {10, 0, 0}, new int[] {1, 0, 1}, new int[] {0, 10, 0});
            x.limit(9999);
            x.finds(1, of[0], of[1]);
            x.count(0);
            CHECKS.due("stop() with a true lead of " + (of[0] - of[1]), x.stop(), of[0] - of[1] > 0 ? 1 : 0);
        }
    }
}
