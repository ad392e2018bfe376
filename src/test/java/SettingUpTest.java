/** Promises 1 to 5: a new object, pile, finds, limit, seed. */
public final class SettingUpTest {
    private static final Checks CHECKS = new Checks();

    public static void main(String[] arguments) {
        newObject();
        pileNumbers();
        pileErrors();
        pileTooManyBeforeCounted();
        pileChangesWinner();
        findsAnswers();
        findsErrors();
        findsWhenStopped();
        limitAnswers();
        seedAnswers();
        CHECKS.end("SettingUpTest");
    }

    private static void newObject() {
        PileRecount x = new PileRecount();
        int none = PileRecount.NONE;
        CHECKS.dueStates("new", x, 0, 0, none, none, none, none, 10000, 0, 0, 0, 500, 1, 0, 0);
        CHECKS.due("new: ofPile(0, 0)", x.ofPile(0, 0), PileRecount.NO_SUCH);
        CHECKS.due("new: counted(0)", x.counted(0), PileRecount.NO_SUCH);
        CHECKS.due("new: fault()", x.fault(), 0);
        CHECKS.due("new: undo()", x.undo(), PileRecount.NOT_POSSIBLE);
        CHECKS.due("new: restore(0)", x.restore(0), PileRecount.NOT_POSSIBLE);
        CHECKS.due("new: restore(1)", x.restore(1), PileRecount.NOT_POSSIBLE);
    }

    private static void pileNumbers() {
        PileRecount x = new PileRecount();
        for (int i = 0; i < 10; i++) {
            CHECKS.due("pile " + i, x.pile(i, 200 - i, 2 * i), i);
        }
        CHECKS.due("an eleventh pile", x.pile(0, 0, 0), PileRecount.TOO_MANY);
        CHECKS.due("bad before too many", x.pile(0, 0, 201), PileRecount.BAD_VALUE);
        for (int i = 0; i < 10; i++) {
            CHECKS.due("zero of " + i, x.ofPile(i, 0), i);
            CHECKS.due("one of " + i, x.ofPile(i, 1), 200 - i);
            CHECKS.due("blanks of " + i, x.ofPile(i, 2), 2 * i);
        }
        CHECKS.due("piles", x.state(0), 10);
    }

    private static void pileErrors() {
        PileRecount x = new PileRecount();
        int bad = PileRecount.BAD_VALUE;
        CHECKS.due("pile(-1, 0, 0)", x.pile(-1, 0, 0), bad);
        CHECKS.due("pile(0, -1, 0)", x.pile(0, -1, 0), bad);
        CHECKS.due("pile(0, 0, -1)", x.pile(0, 0, -1), bad);
        CHECKS.due("pile(201, 0, 0)", x.pile(201, 0, 0), bad);
        CHECKS.due("pile(0, 201, 0)", x.pile(0, 201, 0), bad);
        CHECKS.due("pile(0, 0, 201)", x.pile(0, 0, 201), bad);
        CHECKS.due("pile(MIN, 0, 0)", x.pile(Integer.MIN_VALUE, 0, 0), bad);
        CHECKS.due("pile(0, 0, MAX)", x.pile(0, 0, Integer.MAX_VALUE), bad);
        CHECKS.due("no pile is made", x.state(0), 0);
        CHECKS.due("errors are no changes", x.state(13), 0);
        CHECKS.due("pile(200, 200, 200)", x.pile(200, 200, 200), 0);
        CHECKS.due("pile(0, 1, 0)", x.pile(0, 1, 0), 1);
        CHECKS.due("count(1)", x.count(1), 1);
        CHECKS.due("pile behind a count", x.pile(0, 0, 0), PileRecount.NOT_POSSIBLE);
        CHECKS.due("bad before not possible", x.pile(0, 0, -1), bad);
        CHECKS.due("piles", x.state(0), 2);
        x.undo();
        CHECKS.due("pile behind an undone count", x.pile(0, 0, 0), 2);
    }

    private static void pileTooManyBeforeCounted() {
        PileRecount x = new PileRecount();
        for (int i = 0; i < 10; i++) {
            x.pile(1, 0, 0);
        }
        x.count(0);
        CHECKS.due("too many before not possible", x.pile(0, 0, 0), PileRecount.TOO_MANY);
    }

    private static void pileChangesWinner() {
        PileRecount x = new PileRecount();
        x.pile(10, 0, 5);
        CHECKS.due("winner", x.state(2), 0);
        CHECKS.due("swing", x.ofPile(0, 8), 25);
        x.pile(0, 30, 0);
        CHECKS.due("winner behind a second pile", x.state(2), 1);
        CHECKS.due("lead", x.state(3), 100020);
        CHECKS.due("swing for the other side", x.ofPile(0, 8), 5);
        CHECKS.due("swing of the second pile", x.ofPile(1, 8), 60);
        x.pile(20, 0, 0);
        CHECKS.due("no winner", x.state(2), PileRecount.NONE);
    }

    private static void findsAnswers() {
        PileRecount x = new PileRecount();
        x.pile(10, 20, 5);
        x.pile(3, 0, 0);
        CHECKS.due("finds(0, 10, 20)", x.finds(0, 10, 20), 100000);
        CHECKS.due("finds(0, 35, 0)", x.finds(0, 35, 0), 100045);
        CHECKS.due("finds(0, 0, 35)", x.finds(0, 0, 35), 99975);
        CHECKS.due("finds(0, 0, 0)", x.finds(0, 0, 0), 100010);
        CHECKS.due("finds(0, 17, 18)", x.finds(0, 17, 18), 100009);
        CHECKS.due("finds is a change", x.state(13), 6);
        CHECKS.due("not counted, not told", x.ofPile(0, 5), PileRecount.NONE);
        CHECKS.due("the reported votes stay", x.ofPile(0, 0), 10);
        CHECKS.due("the lead stays", x.state(4), 100007);
        x.count(0);
        CHECKS.due("found for 0", x.ofPile(0, 5), 17);
        CHECKS.due("found for 1", x.ofPile(0, 6), 18);
        CHECKS.due("the lead by what is found", x.state(4), 99998);
        x.count(1);
        CHECKS.due("at first what is reported", x.ofPile(1, 5), 3);
    }

    private static void findsErrors() {
        PileRecount x = new PileRecount();
        CHECKS.due("finds without piles", x.finds(0, 0, 0), PileRecount.NO_SUCH);
        x.pile(10, 20, 5);
        CHECKS.due("finds(-1, 0, 0)", x.finds(-1, 0, 0), PileRecount.NO_SUCH);
        CHECKS.due("finds(1, -1, 0)", x.finds(1, -1, 0), PileRecount.NO_SUCH);
        CHECKS.due("finds(0, -1, 0)", x.finds(0, -1, 0), PileRecount.BAD_VALUE);
        CHECKS.due("finds(0, 0, -1)", x.finds(0, 0, -1), PileRecount.BAD_VALUE);
        CHECKS.due("finds(0, 36, 0)", x.finds(0, 36, 0), PileRecount.BAD_VALUE);
        CHECKS.due("finds(0, 18, 18)", x.finds(0, 18, 18), PileRecount.BAD_VALUE);
        int most = Integer.MAX_VALUE;
        CHECKS.due("finds(0, MAX, MAX)", x.finds(0, most, most), PileRecount.BAD_VALUE);
        CHECKS.due("finds(0, 2, MAX)", x.finds(0, 2, most), PileRecount.BAD_VALUE);
        CHECKS.due("errors are no changes", x.state(13), 1);
        x.count(0);
        CHECKS.due("what was found stays", x.ofPile(0, 6), 20);
        CHECKS.due("finds of a counted pile", x.finds(0, 1, 1), PileRecount.NOT_POSSIBLE);
        CHECKS.due("bad before not possible", x.finds(0, 18, 18), PileRecount.BAD_VALUE);
    }

    private static void findsWhenStopped() {
        PileRecount x = new PileRecount();
        x.pile(5, 0, 0);
        x.pile(6, 0, 0);
        x.limit(9999);
        x.count(0);
        CHECKS.due("stop()", x.stop(), 1);
        CHECKS.due("finds when it was stopped", x.finds(1, 0, 6), 99988);
        CHECKS.due("finds of the counted one", x.finds(0, 0, 5), PileRecount.NOT_POSSIBLE);
    }

    private static void limitAnswers() {
        PileRecount x = new PileRecount();
        CHECKS.due("limit(1)", x.limit(1), 500);
        CHECKS.due("limit(9999)", x.limit(9999), 1);
        CHECKS.due("limit(0)", x.limit(0), PileRecount.BAD_VALUE);
        CHECKS.due("limit(10000)", x.limit(10000), PileRecount.BAD_VALUE);
        CHECKS.due("limit(-7)", x.limit(-7), PileRecount.BAD_VALUE);
        CHECKS.due("LIMIT", x.state(10), 9999);
        CHECKS.due("two changes", x.state(13), 2);
        x.pile(1, 0, 0);
        x.count(0);
        CHECKS.due("limit behind a count", x.limit(5), PileRecount.NOT_POSSIBLE);
        CHECKS.due("bad before not possible", x.limit(0), PileRecount.BAD_VALUE);
        CHECKS.due("LIMIT stays", x.state(10), 9999);
        x.undo();
        CHECKS.due("limit(5)", x.limit(5), 9999);
    }

    private static void seedAnswers() {
        PileRecount x = new PileRecount();
        CHECKS.due("seed(0)", x.seed(0), 1);
        CHECKS.due("seed(MAX)", x.seed(Integer.MAX_VALUE), 0);
        CHECKS.due("seed(-1)", x.seed(-1), PileRecount.BAD_VALUE);
        CHECKS.due("seed(MIN)", x.seed(Integer.MIN_VALUE), PileRecount.BAD_VALUE);
        CHECKS.due("the number", x.state(11), Integer.MAX_VALUE);
        CHECKS.due("two changes", x.state(13), 2);
        x.pile(1, 0, 0);
        x.count(0);
        x.stop();
        CHECKS.due("seed when it was stopped", x.seed(77), Integer.MAX_VALUE);
    }
}
