import java.util.List;
import java.util.function.Consumer;
import java.util.function.Supplier;

/** Promises 22 to 24, and what is a change and what is none: each sentence that names a boundary case. */
public final class EdgesOfPastTest {
    private static final Checks CHECKS = new Checks();
    private static final int NOT_POSSIBLE = PileRecount.NOT_POSSIBLE;

    public static void main(String[] arguments) {
        undoFromNoneToSix();
        undoneStatesAreGone();
        droppedStatesAreGone();
        eachChangeDropsTheOldest();
        recordedThoughNothingIsDifferent();
        undoBringsEverythingBack();
        restoreCanBeUndone();
        makeCanBeUndone();
        undoLeavesThePadAndTheSlots();
        whatIsNoChange();
        lookingChangesNothing();
        saveInBothSlots();
        saveOverwrites();
        saveNothing();
        restoreWhatWasNotSaved();
        restoreKeepsTheSlot();
        restoreBringsEverythingBack();
        restoreOverOtherPiles();
        restoreLeavesThePadAndTheHistory();
        CHECKS.end("EdgesOfPastTest");
    }

    private static Supplier<PileRecount> behind(Supplier<PileRecount> situation, Consumer<PileRecount> calls) {
        return () -> {
            PileRecount x = situation.get();
            calls.accept(x);
            return x;
        };
    }

    /** Everything that can be seen is the same in two recounts that are made in two ways. */
    private static void dueSame(String when, Supplier<PileRecount> got, Supplier<PileRecount> want) {
        CHECKS.dueLooks(when, Looks.everywhere(got), Looks.everywhere(want));
    }

    /** "A history of at most 6 states is kept": "NOT_POSSIBLE if there is none". */
    private static void undoFromNoneToSix() {
        for (int changes = 0; changes <= 9; changes++) {
            PileRecount x = new PileRecount();
            for (int i = 1; i <= changes; i++) {
                x.seed(100 + i);
            }
            int kept = Math.min(6, changes);
            CHECKS.due("kept of " + changes, x.state(13), kept);
            for (int left = kept - 1; left >= 0; left--) {
                CHECKS.due("undo one of " + changes, x.undo(), left);
                CHECKS.due("can be undone", x.state(13), left);
                int behind = changes - (kept - left);
                CHECKS.due("the number behind " + behind, x.state(11), behind == 0 ? 1 : 100 + behind);
            }
            CHECKS.due("undo one more of " + changes, x.undo(), NOT_POSSIBLE);
        }
    }

    /** An undone change can't be undone again, and the next change takes its place. */
    private static void undoneStatesAreGone() {
        PileRecount x = new PileRecount();
        x.seed(5);
        x.seed(6);
        x.undo();
        x.seed(7);
        CHECKS.due("two changes", x.state(13), 2);
        x.undo();
        CHECKS.due("behind the first", x.state(11), 5);
        x.undo();
        CHECKS.due("before the first", x.state(11), 1);
        CHECKS.due("no more", x.undo(), NOT_POSSIBLE);
    }

    /** "when one more is recorded, the oldest one is dropped" */
    private static void droppedStatesAreGone() {
        PileRecount x = Situations.even(7);
        CHECKS.due("six of seven", x.state(13), 6);
        for (int left = 5; left >= 0; left--) {
            CHECKS.due("undo()", x.undo(), left);
        }
        CHECKS.due("the first pile stays", x.state(0), 1);
        CHECKS.due("undo()", x.undo(), NOT_POSSIBLE);
        CHECKS.due("the first pile stays", x.state(0), 1);
        for (int i = 0; i < 20; i++) {
            x.seed(i);
            x.limit(i + 1);
            x.undo();
            CHECKS.due("changes", x.state(13), Math.min(5, i + 1));
        }
        CHECKS.due("LIMIT", x.state(10), 500);
        CHECKS.due("the number", x.state(11), 19);
    }

    /** "when one more is recorded, the oldest one is dropped": behind six changes, by each kind of one more. */
    private static void eachChangeDropsTheOldest() {
        dueDropped("pile", x -> x.pile(1, 2, 3));
        dueDropped("finds", x -> x.finds(1, 0, 39));
        dueDropped("limit", x -> x.limit(1));
        dueDropped("seed", x -> x.seed(0));
        dueDropped("draw", PileRecount::draw);
        dueDropped("count", x -> x.count(2));
        dueDropped("finish", PileRecount::finish);
        dueDropped("restore", x -> x.restore(1));
        dueDropped("make", PileRecount::make);
        PileRecount x = withSixChanges();
        x.undo();
        x.count(0);
        CHECKS.due("stop()", x.stop(), 1);
        dueSixUndone("stop", x, 13);
    }

    /** The first of them makes three piles, the second one changes LIMIT; four more can be seen at the seed. */
    private static PileRecount withSixChanges() {
        PileRecount x = new PileRecount();
        x.save(1);
        Checks.putText(x, "20,19;20,19;20,19");
        x.make();
        x.limit(9999);
        for (int seed = 11; seed <= 14; seed++) {
            x.seed(seed);
        }
        Checks.putText(x, "5,6;7,8");
        CHECKS.due("six changes", x.state(13), 6);
        return x;
    }

    private static void dueDropped(String change, Consumer<PileRecount> call) {
        PileRecount x = withSixChanges();
        call.accept(x);
        dueSixUndone(change, x, 14);
    }

    private static void dueSixUndone(String change, PileRecount x, int latest) {
        int[] numbers = {1, 1, 11, 12, 13, latest};
        CHECKS.due(change + ": six are kept", x.state(13), 6);
        for (int left = 5; left >= 0; left--) {
            CHECKS.due(change + ": undo()", x.undo(), left);
            CHECKS.due(change + ": the number with " + left, x.state(11), numbers[left]);
        }
        CHECKS.due(change + ": LIMIT", x.state(10), 500);
        CHECKS.due(change + ": the first change stays", x.state(0), 3);
        CHECKS.due(change + ": undo() once more", x.undo(), NOT_POSSIBLE);
    }

    /** "(also if nothing is different then)" */
    private static void recordedThoughNothingIsDifferent() {
        PileRecount x = new PileRecount();
        x.pile(2, 1, 0);
        x.save(0);
        CHECKS.due("the same finds", x.finds(0, 2, 1), 100000);
        CHECKS.due("the same LIMIT", x.limit(500), 500);
        CHECKS.due("the same seed", x.seed(1), 1);
        CHECKS.due("the same saved state", x.restore(0), 0);
        Checks.putText(x, "1,201");
        CHECKS.due("no pile made", x.make(), 0);
        CHECKS.due("six changes", x.state(13), 6);
        for (int left = 5; left >= 1; left--) {
            CHECKS.due("undo()", x.undo(), left);
            CHECKS.due("the pile is there", x.state(0), 1);
        }
        CHECKS.due("undo the pile", x.undo(), 0);
        CHECKS.due("no pile", x.state(0), 0);
    }

    /** "everything .. is as it was before it": behind each kind of change. */
    private static void undoBringsEverythingBack() {
        dueUndone("pile", Situations::fresh, x -> x.pile(1, 2, 3));
        dueUndone("pile", Situations::tie, x -> x.pile(200, 100, 3));
        dueUndone("pile for the other side", Situations::ready, x -> x.pile(0, 200, 7));
        dueUndone("finds", Situations::ready, x -> x.finds(1, 0, 42));
        dueUndone("limit", Situations::ready, x -> x.limit(1));
        dueUndone("seed", Situations::ready, x -> x.seed(0));
        dueUndone("draw", Situations::ready, PileRecount::draw);
        dueUndone("count", Situations::ready, x -> x.count(3));
        dueUndone("finish", Situations::ready, PileRecount::finish);
        dueUndone("finish behind a draw", behind(Situations::ready, PileRecount::draw), PileRecount::finish);
        dueUndone("stop", EdgesOfPastTest::threeOfFourCounted, PileRecount::stop);
    }

    /** One may stop, and fewer than six changes are kept. */
    private static PileRecount threeOfFourCounted() {
        PileRecount x = new PileRecount();
        Checks.putText(x, "20,19;20,19=15,20;20,19;20,19");
        x.make();
        x.limit(2500);
        x.count(2);
        x.count(0);
        x.count(3);
        return x;
    }

    private static void dueUndone(String change, Supplier<PileRecount> situation, Consumer<PileRecount> calls) {
        int before = situation.get().state(13);
        CHECKS.due(change + ": changes", behind(situation, calls).get().state(13), before + 1);
        dueSame("undo " + change, behind(behind(situation, calls), PileRecount::undo), situation);
    }

    private static void restoreCanBeUndone() {
        dueUndone("restore(0)", Situations::ready, x -> x.restore(0));
        dueUndone("restore(1)", behind(Situations::ready, x -> x.finds(0, 0, 0)), x -> x.restore(1));
    }

    /** make empties the pad, and undo does not bring its characters back. */
    private static void makeCanBeUndone() {
        Supplier<PileRecount> wiped = behind(Situations::ready, PileRecount::wipe);
        for (String text : new String[] {"1,2", "1,2;3,4=5,2;6,7,8=9,10", "1,2;3,4=5,3;6,7", "1,201", "0,200,200"}) {
            dueUndone("make of " + text, wiped, x -> {
                Checks.putText(x, text);
                x.make();
            });
        }
    }

    /** "everything except the pad, the slots and the history" */
    private static void undoLeavesThePadAndTheSlots() {
        PileRecount x = Situations.even(2);
        x.save(0);
        Checks.putText(x, "1,2;3,4");
        x.pile(5, 5, 5);
        x.save(1);
        x.undo();
        CHECKS.due("the length of the pad", x.state(12), 7);
        CHECKS.due("undo()", x.undo(), 1);
        CHECKS.due("the length of the pad", x.state(12), 7);
        CHECKS.due("restore(1)", x.restore(1), 0);
        CHECKS.due("what was saved behind the change", x.state(0), 3);
        CHECKS.due("make()", x.make(), 2);
        CHECKS.due("restore(0)", x.restore(0), 0);
        CHECKS.due("what was saved before it", x.state(0), 2);
    }

    /** put, wipe, save, undo and refused calls are no changes. */
    private static void whatIsNoChange() {
        PileRecount x = Situations.even(2);
        x.put('1');
        CHECKS.due("put", x.state(13), 2);
        x.wipe();
        CHECKS.due("wipe", x.state(13), 2);
        x.save(0);
        x.save(1);
        CHECKS.due("save", x.state(13), 2);
        x.make();
        x.stop();
        x.count(2);
        x.seed(-1);
        CHECKS.due("refused calls", x.state(13), 2);
        x.undo();
        CHECKS.due("undo", x.state(13), 1);
    }

    /** "what if; nothing changes", nor behind what there is: each call by itself. */
    private static void lookingChangesNothing() {
        for (Supplier<PileRecount> situation : List.<Supplier<PileRecount>>of(Situations::fresh, Situations::tie,
            Situations::ready, Situations::underWay, Situations::stopped, Situations::allWrong)) {
            Looking[] looks = {x -> x.ofPile(0, 8), x -> x.state(6), x -> x.counted(0), x -> x.riskOf(9, 4, 2),
                PileRecount::atLeast, x -> x.orders(1), PileRecount::wrongOrders, PileRecount::suspects,
                PileRecount::fault};
            for (int i = 0; i < looks.length; i++) {
                Looking look = looks[i];
                dueSame("looking by call " + i, behind(situation, x -> look.at(x)), situation);
            }
        }
    }

    private interface Looking {
        int at(PileRecount x);
    }

    /** "`slot`: 0 or 1": "Returns how many piles are counted". */
    private static void saveInBothSlots() {
        PileRecount x = Situations.even(10);
        for (int counted = 0; counted <= 10; counted++) {
            CHECKS.due("save(0) with " + counted, x.save(0), counted);
            CHECKS.due("save(1) with " + counted, x.save(1), counted);
            CHECKS.due("save(-1)", x.save(-1), PileRecount.BAD_VALUE);
            CHECKS.due("save(2)", x.save(2), PileRecount.BAD_VALUE);
            x.count(counted);
        }
        x = Situations.even(2);
        x.save(0);
        x.count(1);
        x.save(1);
        x.count(0);
        CHECKS.due("restore(0)", x.restore(0), 0);
        CHECKS.due("restore(1)", x.restore(1), 1);
        CHECKS.due("pile 1 is counted", x.counted(0), 1);
    }

    /** "and overwrites what was saved there": there, and not in the other slot. */
    private static void saveOverwrites() {
        PileRecount x = Situations.even(3);
        x.save(0);
        x.save(1);
        x.count(2);
        x.save(1);
        x.count(0);
        x.save(1);
        CHECKS.due("the slot 0", x.restore(0), 0);
        CHECKS.due("the slot 1", x.restore(1), 2);
    }

    /** A new object, without piles, can be saved, too. */
    private static void saveNothing() {
        PileRecount x = new PileRecount();
        CHECKS.due("save(1)", x.save(1), 0);
        x.pile(5, 4, 3);
        x.limit(9);
        CHECKS.due("restore(1)", x.restore(1), 0);
        CHECKS.due("no pile", x.state(0), 0);
        CHECKS.due("LIMIT", x.state(10), 500);
        CHECKS.due("no winner", x.state(2), PileRecount.NONE);
    }

    /** "BAD_VALUE if there is no such slot; NOT_POSSIBLE if nothing was saved in it" */
    private static void restoreWhatWasNotSaved() {
        PileRecount x = Situations.even(1);
        for (int slot : new int[] {-1, 2, Integer.MIN_VALUE, Integer.MAX_VALUE}) {
            CHECKS.due("restore(" + slot + ")", x.restore(slot), PileRecount.BAD_VALUE);
            CHECKS.due("save(" + slot + ")", x.save(slot), PileRecount.BAD_VALUE);
        }
        CHECKS.due("restore(0)", x.restore(0), NOT_POSSIBLE);
        CHECKS.due("restore(1)", x.restore(1), NOT_POSSIBLE);
        x.save(0);
        CHECKS.due("restore(1) behind save(0)", x.restore(1), NOT_POSSIBLE);
        CHECKS.due("restore(0) behind save(0)", x.restore(0), 0);
        CHECKS.due("two changes", x.state(13), 2);
    }

    /** "Restores what was saved last in a slot, which keeps it." */
    private static void restoreKeepsTheSlot() {
        PileRecount x = Situations.even(3);
        x.finds(1, 0, 39);
        x.count(0);
        x.save(1);
        for (int i = 0; i < 3; i++) {
            x.count(1);
            x.count(2);
            x.seed(i);
            CHECKS.due("restore(1)", x.restore(1), 1);
            CHECKS.due("pile 0 alone", x.ofPile(1, 4), PileRecount.NONE);
            CHECKS.due("the number", x.state(11), 1);
            x.finds(1, 39, 0);
            x.undo();
        }
        x.finds(1, 39, 0);
        x.restore(1);
        x.count(1);
        CHECKS.due("what a recount finds", x.ofPile(1, 6), 39);
    }

    /** "Saves everything except the pad, the history and the slots" */
    private static void restoreBringsEverythingBack() {
        PileRecount x = Situations.stopped();
        x.save(0);
        PileRecount y = Situations.stopped();
        for (int i = 0; i < 6; i++) {
            y.undo();
        }
        CHECKS.due("not stopped", y.state(8), 0);
        Checks.putText(x, "=1,1");
        Checks.putText(y, "=1,1");
        CHECKS.due("restore(1)", y.restore(1), 3);
        for (int what = 0; what <= 12; what++) {
            CHECKS.due("restored: state(" + what + ")", y.state(what), x.state(what));
        }
        for (int pile = 0; pile < 5; pile++) {
            for (int what = 0; what <= 8; what++) {
                CHECKS.due("restored: of pile " + pile, y.ofPile(pile, what), x.ofPile(pile, what));
            }
        }
        CHECKS.due("restored: the order", y.counted(2), x.counted(2));
        CHECKS.due("draw() behind a restored stop", y.draw(), NOT_POSSIBLE);
    }

    /** Each number of a pile comes back, where other piles, or none, stood in the meantime. */
    private static void restoreOverOtherPiles() {
        PileRecount x = new PileRecount();
        x.save(1);
        Checks.putText(x, "11,12,13=14,15;26,22,23=24,25;31,32,33=36,35");
        x.make();
        x.save(0);
        CHECKS.due("no piles", x.restore(1), 0);
        Checks.putText(x, "101,2,103=4,105;6,107,8=9,10");
        x.make();
        CHECKS.due("other piles", x.restore(0), 0);
        dueThreePiles("restored", x);
        for (int i = 0; i < 4; i++) {
            x.undo();
        }
        CHECKS.due("the other piles are undone", x.state(0), 2);
        CHECKS.due("other blanks", x.ofPile(1, 2), 8);
        CHECKS.due("undo of the other piles", x.undo(), 1);
        CHECKS.due("undo of having no piles", x.undo(), 0);
        dueThreePiles("undone", x);
    }

    private static void dueThreePiles(String when, PileRecount x) {
        int[][] piles = {{11, 12, 13, 14, 15}, {26, 22, 23, 24, 25}, {31, 32, 33, 36, 35}};
        CHECKS.due(when + ": piles", x.state(0), 3);
        CHECKS.due(when + ": the lead", x.state(3), 100002);
        for (int pile = 0; pile < 3; pile++) {
            for (int what = 0; what < 3; what++) {
                CHECKS.due(when + ": ofPile(" + pile + ", " + what + ")", x.ofPile(pile, what), piles[pile][what]);
            }
            CHECKS.due(when + ": count(" + pile + ")", x.count(pile), pile + 1);
            CHECKS.due(when + ": ofPile(" + pile + ", 5)", x.ofPile(pile, 5), piles[pile][3]);
            CHECKS.due(when + ": ofPile(" + pile + ", 6)", x.ofPile(pile, 6), piles[pile][4]);
        }
    }

    /** The pad and the history stay as they are, but for the restoring itself, "a change". */
    private static void restoreLeavesThePadAndTheHistory() {
        PileRecount x = Situations.even(2);
        Checks.putText(x, "1,2");
        x.save(0);
        Checks.putText(x, ";3,4");
        x.seed(8);
        x.seed(9);
        CHECKS.due("restore(0)", x.restore(0), 0);
        CHECKS.due("the length of the pad", x.state(12), 7);
        CHECKS.due("changes", x.state(13), 5);
        CHECKS.due("the number", x.state(11), 1);
        CHECKS.due("undo()", x.undo(), 4);
        CHECKS.due("the number", x.state(11), 9);
        CHECKS.due("undo()", x.undo(), 3);
        CHECKS.due("the number", x.state(11), 8);
        CHECKS.due("make()", x.make(), 2);
    }
}
