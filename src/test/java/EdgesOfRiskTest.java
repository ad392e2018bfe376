/** 'Risk' and 'Drawing' of the terms: each sentence that names a boundary case, in the document's order. */
public final class EdgesOfRiskTest {
    private static final Checks CHECKS = new Checks();
    private static final int NONE = PileRecount.NONE;

    public static void main(String[] arguments) {
        leastAndGreatestSwing();
        swingIsWhatCanBeLost();
        needIsAtLeastTheLead();
        needIsTheFewest();
        needOfAllThatAreLeft();
        needOfNone();
        needOfZero();
        needByWhatIsReported();
        worseIfLess();
        riskOfAllCounted();
        riskBehindAWorsePile();
        riskWithoutANeed();
        riskByChoices();
        riskRoundedUp();
        riskAtMostLimit();
        drawByTheLeastAndGreatestNumber();
        drawFromTheFirstToTheLastPlace();
        drawOfThoseThatAreNotCounted();
        CHECKS.end("EdgesOfRiskTest");
    }

    /** A first pile of so many votes for the side 0, that is counted, and others of blanks alone. */
    private static PileRecount leadAgainst(int lead, int... blanks) {
        PileRecount x = new PileRecount();
        x.pile(lead, 0, 0);
        for (int others : blanks) {
            x.pile(0, 0, others);
        }
        x.count(0);
        return x;
    }

    /** Equal piles, each of ten votes for the side 0: half of them could turn the lead. */
    private static PileRecount tens(int piles, int counted) {
        PileRecount x = new PileRecount();
        for (int i = 0; i < piles; i++) {
            x.pile(10, 0, 0);
        }
        for (int i = 0; i < counted; i++) {
            x.count(i);
        }
        return x;
    }

    /** "The swing of a pile that is not counted is its reported lead and its size" */
    private static void leastAndGreatestSwing() {
        int[][] votes = {{200, 0, 200}, {200, 0, 0}, {0, 200, 0}, {0, 199, 0}, {0, 0, 0}, {0, 0, 200}, {200, 200, 200},
            {1, 0, 0}, {1, 199, 5}};
        int[] forZero = {600, 400, 0, 0, 0, 200, 600, 2, 7};
        int[] forOne = {200, 0, 400, 398, 0, 200, 600, 0, 403};
        dueSwings(votes, new int[] {200, 0, 0}, forZero);
        dueSwings(votes, new int[] {0, 200, 0}, forOne);
    }

    private static void dueSwings(int[][] votes, int[] last, int[] swings) {
        PileRecount x = new PileRecount();
        for (int[] pile : votes) {
            x.pile(pile[0], pile[1], pile[2]);
        }
        x.pile(last[0], last[1], last[2]);
        for (int pile = 0; pile < swings.length; pile++) {
            CHECKS.due("swing of " + pile + " for the side " + x.state(2), x.ofPile(pile, 8), swings[pile]);
        }
        x.count(0);
        CHECKS.due("no swing of a counted pile", x.ofPile(0, 8), NONE);
    }

    /** "(so much its lead could become less)": if a recount finds all of its ballots for the loser. */
    private static void swingIsWhatCanBeLost() {
        int[][] piles = {{200, 0, 200}, {30, 40, 5}, {0, 50, 0}, {0, 0, 9}, {60, 60, 60}, {0, 0, 0}};
        for (int winner = 0; winner <= 1; winner++) {
            for (int pile = 0; pile < piles.length; pile++) {
                PileRecount x = new PileRecount();
                for (int[] of : piles) {
                    x.pile(of[winner], of[1 - winner], of[2]);
                }
                int swing = x.ofPile(pile, 8);
                int size = x.ofPile(pile, 3);
                int lead = x.state(4);
                CHECKS.due("all of it for the loser", x.finds(pile, winner * size, size - winner * size) >= 0, true);
                x.count(pile);
                CHECKS.due("lost in pile " + pile + " by the winner " + x.state(2), lead - x.state(4), swing);
                CHECKS.due("worse, if there is something to lose", x.ofPile(pile, 7), swing > 0 ? 1 : 0);
            }
        }
    }

    /** "the fewest piles that are not counted whose swings are together at least the lead" */
    private static void needIsAtLeastTheLead() {
        CHECKS.due("30 against 30", leadAgainst(30, 30).state(5), 1);
        CHECKS.due("30 against 31", leadAgainst(30, 31).state(5), 1);
        CHECKS.due("30 against 29 and 1", leadAgainst(30, 29, 1).state(5), 2);
        CHECKS.due("30 against 1 and 30", leadAgainst(30, 1, 30).state(5), 1);
        CHECKS.due("30 against 10, 10, 10", leadAgainst(30, 10, 10, 10).state(5), 3);
        CHECKS.due("30 against 10, 10, 9, 1", leadAgainst(30, 10, 10, 9, 1).state(5), 4);
        CHECKS.due("200 against 200", leadAgainst(200, 200).state(5), 1);
        CHECKS.due("1 against 1", leadAgainst(1, 1).state(5), 1);
        PileRecount x = new PileRecount();
        x.pile(1, 0, 0);
        CHECKS.due("a pile by itself", x.state(5), 1);
    }

    /** The fewest: those with the greatest swings, wherever they stand; none that is counted. */
    private static void needIsTheFewest() {
        CHECKS.due("100 against 1, 2, 99, 3", leadAgainst(100, 1, 2, 99, 3).state(5), 2);
        CHECKS.due("100 against 50, 1, 49, 48", leadAgainst(100, 50, 1, 49, 48).state(5), 3);
        PileRecount x = leadAgainst(100, 10, 100, 90);
        CHECKS.due("100 against 10, 100, 90", x.state(5), 1);
        x.count(2);
        CHECKS.due("without the 100", x.state(5), 2);
        x.count(3);
        CHECKS.due("without the 90", x.state(5), NONE);
    }

    /** Ten piles, of which nine are needed: the greatest need that there is behind a counted pile. */
    private static void needOfAllThatAreLeft() {
        PileRecount x = leadAgainst(90, 10, 10, 10, 10, 10, 10, 10, 10, 10);
        CHECKS.due("nine of nine", x.state(5), 9);
        CHECKS.due("risk", x.state(6), 1000);
        CHECKS.due("suspects", x.suspects(), 0b1111111110);
        x = leadAgainst(90, 10, 10, 10, 10, 9, 10, 10, 10, 10);
        CHECKS.due("less by 1", x.state(5), NONE);
        CHECKS.due("no risk", x.state(6), 0);
        CHECKS.due("no suspects", x.suspects(), NONE);
    }

    /** "none, if all of them are together less" */
    private static void needOfNone() {
        CHECKS.due("30 against 29", leadAgainst(30, 29).state(5), NONE);
        CHECKS.due("30 against 10, 10, 9", leadAgainst(30, 10, 10, 9).state(5), NONE);
        CHECKS.due("1 against 0", leadAgainst(1, 0).state(5), NONE);
        CHECKS.due("1 against 0, 0, 0", leadAgainst(1, 0, 0, 0).state(5), NONE);
        CHECKS.due("1 against no pile", leadAgainst(1).state(5), NONE);
        CHECKS.due("200 against no pile", leadAgainst(200).state(5), NONE);
    }

    /** "0 if the lead is 0 or below" */
    private static void needOfZero() {
        int[] needs = {0, 0, 1, 1};
        for (int found = 0; found <= 3; found++) {
            PileRecount x = new PileRecount();
            x.pile(3, 1, 0);
            x.pile(1, 2, 3);
            x.finds(0, found, 0);
            x.count(0);
            CHECKS.due("need with a lead of " + (found - 1), x.state(5), needs[found]);
            CHECKS.due("suspects with a lead of " + (found - 1), x.suspects(), 2 * needs[found]);
            x.count(1);
            CHECKS.due("all counted with a lead of " + (found - 1), x.state(5), found <= 1 ? 0 : NONE);
        }
    }

    /** What would be found in a pile that is not counted changes neither its swing nor the need. */
    private static void needByWhatIsReported() {
        PileRecount x = new PileRecount();
        x.pile(60, 0, 0);
        x.pile(0, 20, 40);
        x.pile(0, 10, 60);
        int[] swings = {120, 40, 60};
        for (int[] found : new int[][] {{60, 0}, {0, 60}, {0, 0}, {30, 30}}) {
            for (int pile = 0; pile < 3; pile++) {
                x.finds(pile, found[0], found[1]);
                CHECKS.due("swing of " + pile, x.ofPile(pile, 8), swings[pile]);
            }
            CHECKS.due("the lead", x.state(4), 100030);
            CHECKS.due("the need", x.state(5), 1);
            CHECKS.due("suspects", x.suspects(), 0b001);
        }
        x.finds(0, 60, 0);
        x.count(0);
        CHECKS.due("the need of the others", x.state(5), 1);
        CHECKS.due("the suspects of the others", x.suspects(), 0b100);
    }

    /** "A counted pile is worse if its lead by what was found is less than its reported one." */
    private static void worseIfLess() {
        int[][] found = {{10, 5, 0}, {9, 4, 0}, {5, 0, 0}, {12, 7, 0}, {10, 4, 0}, {20, 0, 0}, {9, 5, 1}, {10, 6, 1},
            {4, 0, 1}, {12, 8, 1}, {0, 0, 1}, {0, 20, 1}};
        for (int side = 0; side <= 1; side++) {
            for (int[] of : found) {
                PileRecount x = new PileRecount();
                x.pile(side == 0 ? 10 : 5, side == 0 ? 5 : 10, 5);
                x.finds(0, of[side], of[1 - side]);
                String when = "found " + of[side] + ", " + of[1 - side];
                CHECKS.due(when + ": not worse before", x.ofPile(0, 7), 0);
                CHECKS.due(when + ": no worse piles before", x.state(7), 0);
                x.count(0);
                CHECKS.due(when + ": worse", x.ofPile(0, 7), of[2]);
                CHECKS.due(when + ": worse piles", x.state(7), of[2]);
            }
        }
    }

    /** "0 if all piles are counted and the lead is above 0, and 10000 if all are counted and it is not" */
    private static void riskOfAllCounted() {
        int[][] founds = {{1, 0, 0}, {0, 0, 10000}, {0, 1, 10000}};
        for (int[] found : founds) {
            PileRecount x = new PileRecount();
            x.pile(2, 0, 0);
            x.pile(0, 1, 0);
            x.pile(0, 0, 1);
            x.finds(2, found[0], found[1]);
            x.finds(0, 1, 0);
            x.count(0);
            x.count(1);
            x.count(2);
            String when = "all counted, lead " + (found[0] - found[1]);
            CHECKS.due(when + ": lead", x.state(4), 100000 + found[0] - found[1]);
            CHECKS.due(when + ": a worse pile does not matter", x.state(7), found[1] + 1);
            CHECKS.due(when + ": risk", x.state(6), found[2]);
            CHECKS.due(when + ": may stop", x.state(9), found[2] == 0 ? 1 : 0);
        }
        CHECKS.due("all of one pile", leadAgainst(1).state(6), 0);
        CHECKS.due("all of ten piles", tens(10, 10).state(6), 0);
        CHECKS.due("all of ten piles but one", tens(10, 9).state(6), 0);
    }

    /** "otherwise 10000 if some counted pile is worse, or the need is 0": also if there is no need. */
    private static void riskBehindAWorsePile() {
        PileRecount x = leadAgainst(50, 1, 1);
        CHECKS.due("without a worse pile", x.state(6), 0);
        x.undo();
        x.finds(0, 49, 0);
        x.count(0);
        CHECKS.due("there is no need", x.state(5), NONE);
        CHECKS.due("but a worse pile", x.state(6), 10000);
        CHECKS.due("one may not stop", x.state(9), 0);
        x.count(1);
        CHECKS.due("still one is left", x.state(6), 10000);
        x.count(2);
        CHECKS.due("none is left", x.state(6), 0);
        x = Situations.even(5);
        x.finds(3, 0, 39);
        x.count(3);
        CHECKS.due("a need of 0", x.state(5), 0);
        CHECKS.due("the risk", x.state(6), 10000);
    }

    /** "otherwise 0 if there is no need (all swings are together less than the lead)" */
    private static void riskWithoutANeed() {
        PileRecount x = leadAgainst(30, 10, 10, 9);
        CHECKS.due("29 against a lead of 30", x.state(6), 0);
        CHECKS.due("one may stop", x.state(9), 1);
        x = leadAgainst(30, 10, 10, 10);
        CHECKS.due("30 against a lead of 30, a need of 3", x.state(6), 2500);
        CHECKS.due("one may not stop", x.state(9), 0);
    }

    /** "10000 * C(n - m, k) / C(n, k)": with none counted, and with all but the need. */
    private static void riskByChoices() {
        for (int piles = 1; piles <= 10; piles++) {
            CHECKS.due("none of " + piles, tens(piles, 0).state(6), 10000);
        }
        // the need is 5 of 10: C(5, k) of C(10, k)
        int[] risks = {10000, 5000, 2223, 834, 239, 40, 0};
        for (int counted = 0; counted < risks.length; counted++) {
            CHECKS.due(counted + " of ten", tens(10, counted).state(6), risks[counted]);
        }
        PileRecount x = new PileRecount();
        x.pile(5, 5, 0);
        CHECKS.due("10000 without a winner", x.state(6), 10000);
    }

    /** "rounded up" */
    private static void riskRoundedUp() {
        PileRecount x = Situations.even(7);
        int[] risks = {10000, 8572, 7143, 5715, 4286, 2858, 1429, 0};
        for (int counted = 0; counted < risks.length; counted++) {
            CHECKS.due(counted + " of seven", x.state(6), risks[counted]);
            x.count(counted);
        }
    }

    /** "One may stop if the risk is at most LIMIT (1 to 9999; 500 at first)." */
    private static void riskAtMostLimit() {
        PileRecount x = tens(6, 3);
        CHECKS.due("500 at first", x.state(10), 500);
        CHECKS.due("a risk of 500", x.state(6), 500);
        CHECKS.due("is at most 500", x.state(9), 1);
        int[][] limits = {{499, 0}, {500, 1}, {501, 1}, {1, 0}, {9999, 1}};
        for (int[] of : limits) {
            x = tens(6, 0);
            x.limit(of[0]);
            CHECKS.due("10000 is above " + of[0], x.state(9), 0);
            x.count(0);
            x.count(1);
            x.count(2);
            CHECKS.due("500 at most " + of[0], x.state(9), of[1]);
            x.count(3);
            CHECKS.due("0 at most " + of[0], x.state(9), 1);
        }
    }

    /** "the seed, 0 to 2147483647; 1 at first": ten piles by each, and the number behind them. */
    private static void drawByTheLeastAndGreatestNumber() {
        dueDraws(0, 551188310, 0, 4, 6, 7, 1, 5, 3, 8, 2, 9);
        dueDraws(1, 267834847, 8, 7, 1, 2, 3, 5, 6, 0, 4, 9);
        dueDraws(2147483647, 834541773, 9, 8, 6, 7, 1, 2, 0, 5, 3, 4);
        dueDraws(2147483646, 1117895236, 9, 3, 0, 4, 5, 7, 6, 8, 1, 2);
        PileRecount x = Situations.even(10);
        CHECKS.due("1 at first", x.state(11), 1);
        CHECKS.due("the first draw by 1", x.draw(), 8);
    }

    /** "the one with the place (x / 65536) left over by u": always the first, and always the last one. */
    private static void drawFromTheFirstToTheLastPlace() {
        int first = 13361170;
        int last = 4940635;
        dueDraws(first, -1, 0, 1, 2, 3, 4, 5, 6, 7, 8, 9);
        dueDraws(last, -1, 9, 8, 7, 6, 5, 4, 3, 2, 1, 0);
    }

    private static void dueDraws(int seed, int behind, int... piles) {
        PileRecount x = Situations.even(10);
        x.seed(seed);
        for (int place = 0; place < piles.length; place++) {
            CHECKS.due("draw " + place + " by the seed " + seed, x.draw(), piles[place]);
            CHECKS.due("its place", x.ofPile(piles[place], 4), place);
        }
        if (behind >= 0) {
            CHECKS.due("the number behind the seed " + seed, x.state(11), behind);
        }
    }

    /** "of the u piles that are not counted, in ascending order" */
    private static void drawOfThoseThatAreNotCounted() {
        // 16838, 5758, 10113 left over by 3, 2, 1: the places 2, 0, 0 of the piles 1, 4, 6
        PileRecount x = Situations.even(7);
        for (int pile : new int[] {5, 0, 3, 2}) {
            x.count(pile);
        }
        CHECKS.due("of 1, 4, 6", x.draw(), 6);
        CHECKS.due("of 1, 4", x.draw(), 1);
        CHECKS.due("of 4", x.draw(), 4);
        CHECKS.due("of none", x.draw(), PileRecount.NOT_POSSIBLE);
        CHECKS.due("the number stays", x.state(11), 662824084);
    }
}
