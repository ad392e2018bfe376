/** Promises 1 to 5: each sentence that names a boundary case. */
public final class EdgesOfSettingUpTest {
    private static final Checks CHECKS = new Checks();
    private static final int NONE = PileRecount.NONE;
    private static final int MOST = Integer.MAX_VALUE;
    private static final int LEAST = Integer.MIN_VALUE;

    public static void main(String[] arguments) {
        newIsEmpty();
        pileOfNoVotes();
        pileOfBadVotes();
        pileTheTenth();
        pileUntilOneIsCounted();
        pileErrorsInTheirOrder();
        findsOfTheFirstAndTheLastPile();
        findsUpToTheSize();
        findsWouldWrapAround();
        findsAgainstTheReportedOnes();
        findsUntilItIsCounted();
        findsErrorsInTheirOrder();
        limitOneTo9999();
        limitUntilOneIsCounted();
        seedFromZero();
        seedAtAnyTime();
        CHECKS.end("EdgesOfSettingUpTest");
    }

    /** "Creates a recount without piles." */
    private static void newIsEmpty() {
        PileRecount x = new PileRecount();
        CHECKS.dueStates("new", x, 0, 0, NONE, NONE, NONE, NONE, 10000, 0, 0, 0, 500, 1, 0, 0);
        CHECKS.due("no pile 0", x.ofPile(0, 0), PileRecount.NO_SUCH);
        CHECKS.due("no place 0", x.counted(0), PileRecount.NO_SUCH);
        CHECKS.due("nothing to undo", x.undo(), PileRecount.NOT_POSSIBLE);
        CHECKS.due("nothing in the slot 0", x.restore(0), PileRecount.NOT_POSSIBLE);
        CHECKS.due("nothing in the slot 1", x.restore(1), PileRecount.NOT_POSSIBLE);
        CHECKS.due("nothing on the pad", x.wipe(), 0);
    }

    /** "0 to 200": a pile of nothing is a pile, too. */
    private static void pileOfNoVotes() {
        PileRecount x = new PileRecount();
        CHECKS.due("pile(0, 0, 0)", x.pile(0, 0, 0), 0);
        CHECKS.due("piles", x.state(0), 1);
        CHECKS.due("a change", x.state(13), 1);
        CHECKS.due("finds(0, 0, 0)", x.finds(0, 0, 0), 100000);
        CHECKS.due("pile(1, 0, 0)", x.pile(1, 0, 0), 1);
        CHECKS.due("its swing", x.ofPile(0, 8), 0);
        CHECKS.due("count(0)", x.count(0), 1);
        CHECKS.due("pile 0 is not worse", x.ofPile(0, 7), 0);
        CHECKS.due("found for 0", x.ofPile(0, 5), 0);
    }

    /** "BAD_VALUE if an argument is out of range", each for itself. */
    private static void pileOfBadVotes() {
        PileRecount x = new PileRecount();
        for (int bad : new int[] {-1, 201, LEAST, MOST, LEAST + 1, 400, -200, 65536, 256}) {
            CHECKS.due("pile(" + bad + ", 0, 0)", x.pile(bad, 0, 0), PileRecount.BAD_VALUE);
            CHECKS.due("pile(0, " + bad + ", 0)", x.pile(0, bad, 0), PileRecount.BAD_VALUE);
            CHECKS.due("pile(0, 0, " + bad + ")", x.pile(0, 0, bad), PileRecount.BAD_VALUE);
        }
        CHECKS.due("piles", x.state(0), 0);
        CHECKS.due("no change", x.state(13), 0);
        CHECKS.due("pile(200, 200, 200)", x.pile(200, 200, 200), 0);
        CHECKS.due("pile(0, 0, 0)", x.pile(0, 0, 0), 1);
    }

    /** "TOO_MANY if there are 10 piles" */
    private static void pileTheTenth() {
        PileRecount x = Situations.even(9);
        CHECKS.due("the tenth", x.pile(1, 2, 3), 9);
        CHECKS.due("the eleventh", x.pile(1, 2, 3), PileRecount.TOO_MANY);
        x.undo();
        CHECKS.due("the tenth again", x.pile(4, 5, 6), 9);
        CHECKS.due("its votes", x.ofPile(9, 1), 5);
        CHECKS.due("the lead by all ten", x.state(3), 100008);
    }

    /** "NOT_POSSIBLE if a pile is counted" */
    private static void pileUntilOneIsCounted() {
        PileRecount x = Situations.even(2);
        CHECKS.due("none is counted", x.pile(1, 1, 1), 2);
        x.count(2);
        CHECKS.due("one is counted", x.pile(1, 1, 1), PileRecount.NOT_POSSIBLE);
        x.undo();
        CHECKS.due("none is counted again", x.pile(1, 1, 1), 3);
        x.draw();
        CHECKS.due("one is drawn", x.pile(1, 1, 1), PileRecount.NOT_POSSIBLE);
    }

    /** "BAD_VALUE ..; TOO_MANY ..; NOT_POSSIBLE .." */
    private static void pileErrorsInTheirOrder() {
        PileRecount x = Situations.tenAndOneCounted();
        CHECKS.due("all three apply", x.pile(0, 0, 201), PileRecount.BAD_VALUE);
        CHECKS.due("the last two apply", x.pile(0, 0, 200), PileRecount.TOO_MANY);
        x = Situations.underWay();
        CHECKS.due("the first and the last one", x.pile(-1, 0, 0), PileRecount.BAD_VALUE);
        CHECKS.due("the last one", x.pile(0, 0, 0), PileRecount.NOT_POSSIBLE);
    }

    /** "NO_SUCH if there is no such pile" */
    private static void findsOfTheFirstAndTheLastPile() {
        for (int piles : new int[] {1, 2, 9, 10}) {
            PileRecount x = Situations.even(piles);
            CHECKS.due("the first of " + piles, x.finds(0, 20, 19), 100000);
            CHECKS.due("the last of " + piles, x.finds(piles - 1, 20, 19), 100000);
            for (int pile : new int[] {-1, piles, 10, 11, LEAST, MOST}) {
                CHECKS.due("pile " + pile + " of " + piles, x.finds(pile, 0, 0), PileRecount.NO_SUCH);
            }
        }
        CHECKS.due("the first of none", new PileRecount().finds(0, 0, 0), PileRecount.NO_SUCH);
        PileRecount x = Situations.even(2);
        x.undo();
        CHECKS.due("a pile that was undone", x.finds(1, 0, 0), PileRecount.NO_SUCH);
    }

    /** "0 or more", "both are together at most the size of the pile": the blanks are a part of it. */
    private static void findsUpToTheSize() {
        PileRecount x = new PileRecount();
        x.pile(3, 2, 4);
        int[][] fine = {{0, 0}, {9, 0}, {0, 9}, {4, 5}, {5, 4}, {1, 8}, {8, 1}};
        for (int[] of : fine) {
            int due = 100000 + of[0] - of[1] - 1;
            CHECKS.due("finds(0, " + of[0] + ", " + of[1] + ")", x.finds(0, of[0], of[1]), due);
        }
        int[][] bad = {{-1, 0}, {0, -1}, {10, 0}, {0, 10}, {5, 5}, {9, 1}, {1, 9}, {-1, 10}, {10, -1}, {-1, -1}};
        for (int[] of : bad) {
            String call = "finds(0, " + of[0] + ", " + of[1] + ")";
            CHECKS.due(call, x.finds(0, of[0], of[1]), PileRecount.BAD_VALUE);
        }
    }

    /** Numbers of which the sum, as an int, would be small or below 0. */
    private static void findsWouldWrapAround() {
        PileRecount x = new PileRecount();
        x.pile(200, 200, 200);
        int[][] bad = {{MOST, 1}, {1, MOST}, {MOST, MOST}, {MOST, 2}, {1 << 30, 1 << 30}, {MOST, 600}, {600, MOST},
            {MOST, LEAST}, {LEAST, MOST}, {LEAST, LEAST}, {MOST, -1}, {LEAST, 0}, {0, LEAST}, {MOST, 0}, {0, MOST}};
        for (int[] of : bad) {
            String call = "finds(0, " + of[0] + ", " + of[1] + ")";
            CHECKS.due(call, x.finds(0, of[0], of[1]), PileRecount.BAD_VALUE);
        }
        CHECKS.due("no change", x.state(13), 1);
    }

    /** "how much greater .. are then than the reported ones": not than those that were found before. */
    private static void findsAgainstTheReportedOnes() {
        PileRecount x = new PileRecount();
        x.pile(0, 200, 200);
        CHECKS.due("the most for 0", x.finds(0, 400, 0), 100600);
        CHECKS.due("the most for 1", x.finds(0, 0, 400), 99800);
        CHECKS.due("the reported ones", x.finds(0, 0, 200), 100000);
        CHECKS.due("as much for each", x.finds(0, 200, 200), 100200);
        x.pile(200, 0, 200);
        CHECKS.due("the most for 1 in the other pile", x.finds(1, 0, 400), 99400);
        CHECKS.due("the most for 0 in the other pile", x.finds(1, 400, 0), 100200);
    }

    /** "NOT_POSSIBLE if it is counted": it, not another one. */
    private static void findsUntilItIsCounted() {
        PileRecount x = Situations.even(3);
        x.limit(9999);
        x.count(1);
        CHECKS.due("the pile before it", x.finds(0, 19, 20), 99998);
        CHECKS.due("the pile behind it", x.finds(2, 19, 20), 99998);
        CHECKS.due("the counted pile", x.finds(1, 19, 20), PileRecount.NOT_POSSIBLE);
        CHECKS.due("what it found stays", x.ofPile(1, 5), 20);
        CHECKS.due("stop()", x.stop(), 0);
        CHECKS.due("when it was stopped", x.finds(0, 20, 19), 100000);
        x.undo();
        x.undo();
        x.undo();
        x.undo();
        CHECKS.due("not counted any more", x.finds(1, 19, 20), PileRecount.NOT_POSSIBLE);
        x.undo();
        CHECKS.due("not counted any more", x.finds(1, 19, 20), 99998);
    }

    /** "NO_SUCH ..; BAD_VALUE ..; NOT_POSSIBLE .." */
    private static void findsErrorsInTheirOrder() {
        PileRecount x = Situations.even(2);
        x.count(0);
        CHECKS.due("no such pile, and bad votes", x.finds(2, -1, 0), PileRecount.NO_SUCH);
        CHECKS.due("bad votes of a counted pile", x.finds(0, 40, 0), PileRecount.BAD_VALUE);
        CHECKS.due("votes below 0 of a counted pile", x.finds(0, 0, -1), PileRecount.BAD_VALUE);
        CHECKS.due("good votes of a counted pile", x.finds(0, 39, 0), PileRecount.NOT_POSSIBLE);
        CHECKS.due("good votes of another pile", x.finds(1, 39, 0), 100038);
    }

    /** "`limit`: 1 to 9999": "Returns the previous value". */
    private static void limitOneTo9999() {
        PileRecount x = new PileRecount();
        int previous = 500;
        for (int limit : new int[] {1, 9999, 2, 9998, 9998}) {
            CHECKS.due("limit(" + limit + ")", x.limit(limit), previous);
            CHECKS.due("LIMIT", x.state(10), limit);
            previous = limit;
        }
        for (int bad : new int[] {0, 10000, -1, LEAST, MOST}) {
            CHECKS.due("limit(" + bad + ")", x.limit(bad), PileRecount.BAD_VALUE);
            CHECKS.due("LIMIT", x.state(10), 9998);
        }
        CHECKS.due("five changes", x.state(13), 5);
    }

    /** "NOT_POSSIBLE if a pile is counted", behind "BAD_VALUE if limit is out of range" */
    private static void limitUntilOneIsCounted() {
        PileRecount x = Situations.even(3);
        CHECKS.due("none is counted", x.limit(7), 500);
        x.count(2);
        CHECKS.due("one is counted", x.limit(8), PileRecount.NOT_POSSIBLE);
        CHECKS.due("one is counted, the same", x.limit(7), PileRecount.NOT_POSSIBLE);
        CHECKS.due("one is counted, and 0", x.limit(0), PileRecount.BAD_VALUE);
        CHECKS.due("one is counted, and 10000", x.limit(10000), PileRecount.BAD_VALUE);
        CHECKS.due("LIMIT", x.state(10), 7);
        x.undo();
        CHECKS.due("none is counted again", x.limit(8), 7);
    }

    /** "`seed`: 0 to 2147483647": "Returns the previous number". */
    private static void seedFromZero() {
        PileRecount x = new PileRecount();
        int previous = 1;
        for (int seed : new int[] {0, MOST, 1, MOST - 1, MOST - 1}) {
            CHECKS.due("seed(" + seed + ")", x.seed(seed), previous);
            CHECKS.due("the number", x.state(11), seed);
            previous = seed;
        }
        CHECKS.due("seed(-1)", x.seed(-1), PileRecount.BAD_VALUE);
        CHECKS.due("seed(MIN)", x.seed(LEAST), PileRecount.BAD_VALUE);
        CHECKS.due("the number", x.state(11), MOST - 1);
        CHECKS.due("five changes", x.state(13), 5);
    }

    /** No error is named but BAD_VALUE: behind draws, when it was stopped, when all are counted. */
    private static void seedAtAnyTime() {
        PileRecount x = Situations.even(2);
        x.draw();
        CHECKS.due("behind a draw", x.seed(5), 1103527590);
        x.draw();
        CHECKS.due("when all are counted", x.seed(6), (int) ((5 * 1103515245L + 12345) % 2147483648L));
        x.stop();
        CHECKS.due("when it was stopped", x.seed(7), 6);
        CHECKS.due("the number", x.state(11), 7);
    }
}
