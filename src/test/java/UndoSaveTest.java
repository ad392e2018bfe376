/** Promises 22 to 24: undo, save, restore. */
public final class UndoSaveTest {
    private static final Checks CHECKS = new Checks();

    public static void main(String[] arguments) {
        undoOfEachChange();
        undoOfSix();
        undoLeavesThePad();
        saveAnswers();
        saveOverwrites();
        restoreAnswers();
        restoreErrors();
        rowsThatAreUsedAgain();
        twoObjects();
        CHECKS.end("UndoSaveTest");
    }

    private static PileRecount withTwoPiles() {
        PileRecount x = new PileRecount();
        x.pile(20, 10, 1);
        x.pile(30, 10, 2);
        return x;
    }

    private static void undoOfEachChange() {
        PileRecount x = withTwoPiles();
        x.limit(5000);
        CHECKS.due("undo a limit", x.undo(), 2);
        CHECKS.due("LIMIT", x.state(10), 500);
        x.limit(5000);
        x.seed(5);
        CHECKS.due("undo a seed", x.undo(), 3);
        CHECKS.due("the number", x.state(11), 1);
        x.finds(0, 0, 31);
        CHECKS.due("undo finds", x.undo(), 3);
        x.draw();
        CHECKS.due("it finds what is reported", x.state(4), 100030);
        CHECKS.due("undo a draw", x.undo(), 3);
        CHECKS.due("none is counted", x.state(1), 0);
        CHECKS.due("the number", x.state(11), 1);
        x.count(1);
        CHECKS.due("undo a count", x.undo(), 3);
        CHECKS.due("pile 1 is not counted", x.ofPile(1, 4), PileRecount.NONE);
        x.count(0);
        x.stop();
        CHECKS.due("stopped", x.state(8), 1);
        CHECKS.due("undo a stop", x.undo(), 4);
        CHECKS.due("not stopped", x.state(8), 0);
        x.undo();
        x.undo();
        CHECKS.due("undo a pile", x.undo(), 1);
        CHECKS.due("one pile", x.state(0), 1);
        CHECKS.due("its lead", x.state(3), 100010);
        CHECKS.due("undo the other pile", x.undo(), 0);
        CHECKS.due("no winner", x.state(2), PileRecount.NONE);
        CHECKS.due("nothing to undo", x.undo(), PileRecount.NOT_POSSIBLE);
    }

    private static void undoOfSix() {
        PileRecount x = new PileRecount();
        for (int i = 1; i <= 9; i++) {
            x.seed(10 * i);
            CHECKS.due("changes", x.state(13), Math.min(i, 6));
        }
        for (int i = 8; i >= 3; i--) {
            CHECKS.due("undo()", x.undo(), i - 3);
            CHECKS.due("the number", x.state(11), 10 * i);
        }
        CHECKS.due("no more", x.undo(), PileRecount.NOT_POSSIBLE);
        CHECKS.due("the number", x.state(11), 30);
        x.seed(30);
        CHECKS.due("a change without a difference", x.state(13), 1);
    }

    private static void undoLeavesThePad() {
        PileRecount x = withTwoPiles();
        Checks.putText(x, "1,2");
        x.undo();
        CHECKS.due("the pad stays", x.state(12), 3);
        x.make();
        x.undo();
        CHECKS.due("the pad stays empty", x.state(12), 0);
        CHECKS.due("one pile", x.state(0), 1);
    }

    private static void saveAnswers() {
        PileRecount x = withTwoPiles();
        CHECKS.due("save(0)", x.save(0), 0);
        x.count(1);
        CHECKS.due("save(1)", x.save(1), 1);
        CHECKS.due("save(-1)", x.save(-1), PileRecount.BAD_VALUE);
        CHECKS.due("save(2)", x.save(2), PileRecount.BAD_VALUE);
        CHECKS.due("save(MAX)", x.save(Integer.MAX_VALUE), PileRecount.BAD_VALUE);
        CHECKS.due("save is no change", x.state(13), 3);
    }

    private static void saveOverwrites() {
        PileRecount x = withTwoPiles();
        x.save(0);
        x.undo();
        CHECKS.due("undo leaves the slots", x.restore(0), 0);
        CHECKS.due("two piles", x.state(0), 2);
        x.pile(1, 1, 1);
        x.save(0);
        x.undo();
        x.restore(0);
        CHECKS.due("what was saved last", x.state(0), 3);
    }

    private static void restoreAnswers() {
        PileRecount x = withTwoPiles();
        x.limit(6000);
        x.seed(99);
        x.finds(0, 11, 12);
        x.count(0);
        x.save(1);
        x.undo();
        x.finds(0, 20, 10);
        x.seed(3);
        x.count(1);
        x.stop();
        Checks.putText(x, "1,2");
        CHECKS.due("restore(1)", x.restore(1), 1);
        // worse by 11; all has to be counted
        CHECKS.dueStates("restored", x, 2, 1, 0, 100030, 100019, 1, 10000, 1, 0, 0, 6000, 99, 3, 6);
        CHECKS.due("counted(0)", x.counted(0), 0);
        CHECKS.due("found for 0", x.ofPile(0, 5), 11);
        CHECKS.due("undo the restoring", x.undo(), 5);
        CHECKS.due("stopped again", x.state(8), 1);
        CHECKS.due("counted(0)", x.counted(0), 1);
        CHECKS.due("the slot keeps it", x.restore(1), 1);
        x.count(1);
        CHECKS.due("a change leaves the slot", x.restore(1), 1);
        CHECKS.due("one is counted", x.state(1), 1);
    }

    private static void restoreErrors() {
        PileRecount x = withTwoPiles();
        CHECKS.due("restore(-1)", x.restore(-1), PileRecount.BAD_VALUE);
        CHECKS.due("restore(2)", x.restore(2), PileRecount.BAD_VALUE);
        CHECKS.due("restore(MIN)", x.restore(Integer.MIN_VALUE), PileRecount.BAD_VALUE);
        CHECKS.due("restore(0)", x.restore(0), PileRecount.NOT_POSSIBLE);
        x.save(1);
        CHECKS.due("the other slot", x.restore(0), PileRecount.NOT_POSSIBLE);
        CHECKS.due("no change", x.state(13), 2);
        CHECKS.due("restore(1)", x.restore(1), 0);
        CHECKS.due("a change without a difference", x.state(13), 3);
    }

    private static void rowsThatAreUsedAgain() {
        PileRecount x = withTwoPiles();
        x.finds(1, 8, 9);
        x.save(0);
        x.undo();
        x.undo();
        x.pile(7, 6, 5);
        x.restore(0);
        int[] want = {30, 10, 2, 42};
        for (int what = 0; what < 4; what++) {
            CHECKS.due("restored: ofPile(1, " + what + ")", x.ofPile(1, what), want[what]);
        }
        x.count(1);
        CHECKS.due("restored: found for 0", x.ofPile(1, 5), 8);
        CHECKS.due("restored: found for 1", x.ofPile(1, 6), 9);
        x.undo();
        x.undo();
        CHECKS.due("undone: blanks", x.ofPile(1, 2), 5);
        x.count(1);
        CHECKS.due("undone: it finds what is reported", x.ofPile(1, 5), 7);
    }

    private static void twoObjects() {
        PileRecount x = withTwoPiles();
        PileRecount y = new PileRecount();
        x.save(0);
        x.put('1');
        CHECKS.due("another object has no piles", y.state(0), 0);
        CHECKS.due("another object has no pad", y.state(12), 0);
        CHECKS.due("another object has no slots", y.restore(0), PileRecount.NOT_POSSIBLE);
        CHECKS.due("another object has no history", y.undo(), PileRecount.NOT_POSSIBLE);
    }
}
