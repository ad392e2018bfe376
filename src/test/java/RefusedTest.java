import java.util.HashMap;
import java.util.List;
import java.util.Map;
import java.util.function.Supplier;
import java.util.function.ToIntFunction;

/**
 * All promises: every refused call, its code, the order of the codes where more than one applies, and
 * that nothing is different behind it, anywhere ("A call that returns an error changes nothing").
 */
public final class RefusedTest {
    private static final Checks CHECKS = new Checks();
    private static final int NO_SUCH = PileRecount.NO_SUCH;
    private static final int BAD_VALUE = PileRecount.BAD_VALUE;
    private static final int BAD_TEXT = PileRecount.BAD_TEXT;
    private static final int TOO_MANY = PileRecount.TOO_MANY;
    private static final int NOT_POSSIBLE = PileRecount.NOT_POSSIBLE;
    private static final int MOST = Integer.MAX_VALUE;
    private static final int LEAST = Integer.MIN_VALUE;
    /** Below 0 and above 200, and next to where an int wraps around. */
    private static final int[] BAD_VOTES = {-1, 201, 256, LEAST, LEAST + 200, MOST};

    /** What a situation looks like if nothing is called behind it, by its name. */
    private static final Map<String, List<String>> UNTOUCHED = new HashMap<>();

    private final String name;
    private final Supplier<PileRecount> situation;

    private RefusedTest(String name, Supplier<PileRecount> situation) {
        this.name = name;
        this.situation = situation;
    }

    public static void main(String[] arguments) {
        pile();
        finds();
        limit();
        seed();
        draw();
        count();
        finish();
        stop();
        ofPile();
        stateAndCounted();
        riskOf();
        atLeastAndOrders();
        put();
        make();
        undo();
        saveAndRestore();
        CHECKS.end("RefusedTest");
    }

    /** The code of a call, and what is seen of a recount that was asked it and of one that was not. */
    private void refuses(String call, int code, ToIntFunction<PileRecount> asked) {
        CHECKS.due(name + ": " + call, asked.applyAsInt(situation.get()), code);
        List<String> looks = Looks.everywhere(() -> {
            PileRecount x = situation.get();
            asked.applyAsInt(x);
            return x;
        });
        List<String> due = UNTOUCHED.computeIfAbsent(name, key -> Looks.everywhere(situation));
        CHECKS.dueLooks(name + ": behind " + call, looks, due);
    }

    private static RefusedTest fresh() {
        return new RefusedTest("new", Situations::fresh);
    }

    private static RefusedTest tie() {
        return new RefusedTest("tie", Situations::tie);
    }

    private static RefusedTest ready() {
        return new RefusedTest("ready", Situations::ready);
    }

    private static RefusedTest ten() {
        return new RefusedTest("ten", Situations::ten);
    }

    private static RefusedTest tenAndOneCounted() {
        return new RefusedTest("ten and one counted", Situations::tenAndOneCounted);
    }

    private static RefusedTest underWay() {
        return new RefusedTest("under way", Situations::underWay);
    }

    private static RefusedTest stopped() {
        return new RefusedTest("stopped", Situations::stopped);
    }

    private static RefusedTest allRight() {
        return new RefusedTest("all right", Situations::allRight);
    }

    private static RefusedTest allRightAndStopped() {
        return new RefusedTest("all right and stopped", Situations::allRightAndStopped);
    }

    private static RefusedTest allWrong() {
        return new RefusedTest("all wrong", Situations::allWrong);
    }

    private static RefusedTest hopeless() {
        return new RefusedTest("hopeless", Situations::hopeless);
    }

    private static RefusedTest withPad(int length) {
        return new RefusedTest("a pad of " + length, () -> Situations.withPad(length));
    }

    private static RefusedTest withFault() {
        return new RefusedTest("a fault", Situations::withFault);
    }

    private static RefusedTest withFullHistory() {
        return new RefusedTest("a full history", Situations::withFullHistory);
    }

    // ---- promise 2

    private static void pile() {
        for (RefusedTest at : List.of(fresh(), ready())) {
            pileOfBadVotes(at);
        }
        ten().refuses("pile(0, 0, 0)", TOO_MANY, x -> x.pile(0, 0, 0));
        ten().refuses("pile(200, 200, 200)", TOO_MANY, x -> x.pile(200, 200, 200));
        ten().refuses("pile(201, 0, 0)", BAD_VALUE, x -> x.pile(201, 0, 0));
        tenAndOneCounted().refuses("pile(0, 0, 0)", TOO_MANY, x -> x.pile(0, 0, 0));
        tenAndOneCounted().refuses("pile(0, -1, 0)", BAD_VALUE, x -> x.pile(0, -1, 0));
        for (RefusedTest at : List.of(underWay(), stopped(), allRight(), allWrong(), withFullHistory())) {
            at.refuses("pile(1, 2, 3)", NOT_POSSIBLE, x -> x.pile(1, 2, 3));
            at.refuses("pile(0, 0, 201)", BAD_VALUE, x -> x.pile(0, 0, 201));
        }
    }

    private static void pileOfBadVotes(RefusedTest at) {
        for (int bad : BAD_VOTES) {
            at.refuses("pile(" + bad + ", 0, 0)", BAD_VALUE, x -> x.pile(bad, 0, 0));
            at.refuses("pile(0, " + bad + ", 0)", BAD_VALUE, x -> x.pile(0, bad, 0));
            at.refuses("pile(0, 0, " + bad + ")", BAD_VALUE, x -> x.pile(0, 0, bad));
            at.refuses("pile(" + bad + ", 200, 200)", BAD_VALUE, x -> x.pile(bad, 200, 200));
        }
        at.refuses("pile(-1, 201, -1)", BAD_VALUE, x -> x.pile(-1, 201, -1));
    }

    // ---- promise 3

    private static void finds() {
        findsOfNoPile(fresh(), 0);
        findsOfNoPile(tie(), 1);
        findsOfNoPile(ten(), 10);
        findsOfNoPile(stopped(), 5);
        // the pile 1 has 42 ballots
        for (int[] bad : new int[][] {{-1, 0}, {0, -1}, {-1, -1}, {-1, 43}, {43, 0}, {0, 43}, {1, 42}, {42, 1},
            {MOST, MOST}, {MOST, 1}, {1, MOST}, {MOST, 43}, {LEAST, 0}, {0, LEAST}, {LEAST, LEAST}, {MOST, LEAST},
            {43, -1}, {-1, 42}}) {
            String call = "finds(1, " + bad[0] + ", " + bad[1] + ")";
            ready().refuses(call, BAD_VALUE, x -> x.finds(1, bad[0], bad[1]));
        }
        for (RefusedTest at : List.of(underWay(), stopped(), allRight(), allRightAndStopped())) {
            at.refuses("finds of a counted pile", NOT_POSSIBLE, x -> x.finds(x.counted(0), 20, 19));
            at.refuses("finds of a counted pile, none", NOT_POSSIBLE, x -> x.finds(x.counted(0), 0, 0));
            at.refuses("bad finds of a counted pile", BAD_VALUE, x -> x.finds(x.counted(0), 20, 20));
            at.refuses("finds below 0 of a counted pile", BAD_VALUE, x -> x.finds(x.counted(0), -1, 0));
        }
    }

    private static void findsOfNoPile(RefusedTest at, int behind) {
        for (int pile : new int[] {-1, behind, LEAST, MOST}) {
            at.refuses("finds(" + pile + ", 0, 0)", NO_SUCH, x -> x.finds(pile, 0, 0));
            at.refuses("finds(" + pile + ", -1, MAX)", NO_SUCH, x -> x.finds(pile, -1, MOST));
        }
    }

    // ---- promises 4 and 5

    private static void limit() {
        for (RefusedTest at : List.of(fresh(), ready(), underWay(), stopped())) {
            for (int bad : new int[] {0, -1, 10000, LEAST, MOST}) {
                at.refuses("limit(" + bad + ")", BAD_VALUE, x -> x.limit(bad));
            }
        }
        for (RefusedTest at : List.of(tenAndOneCounted(), underWay(), stopped(), allRight(), allWrong())) {
            at.refuses("limit(1)", NOT_POSSIBLE, x -> x.limit(1));
            at.refuses("limit(9999)", NOT_POSSIBLE, x -> x.limit(9999));
        }
    }

    private static void seed() {
        for (RefusedTest at : List.of(fresh(), ready(), stopped(), allWrong())) {
            at.refuses("seed(-1)", BAD_VALUE, x -> x.seed(-1));
            at.refuses("seed(MIN)", BAD_VALUE, x -> x.seed(LEAST));
        }
    }

    // ---- promises 6 to 9

    private static void draw() {
        for (RefusedTest at : List.of(fresh(), tie(), stopped(), allRight(), allRightAndStopped(), allWrong())) {
            at.refuses("draw()", NOT_POSSIBLE, PileRecount::draw);
        }
    }

    private static void count() {
        countOfNoPile(fresh(), 0);
        countOfNoPile(tie(), 1);
        countOfNoPile(ten(), 10);
        countOfNoPile(stopped(), 5);
        countOfNoPile(allRight(), 3);
        tie().refuses("count(0)", NOT_POSSIBLE, x -> x.count(0));
        tenAndOneCounted().refuses("count(4)", NOT_POSSIBLE, x -> x.count(4));
        stopped().refuses("count of a pile that is left", NOT_POSSIBLE, x -> x.count(1));
        for (RefusedTest at : List.of(underWay(), stopped(), allRight(), allRightAndStopped(), allWrong())) {
            at.refuses("count of the first again", NOT_POSSIBLE, x -> x.count(x.counted(0)));
            at.refuses("count of the last again", NOT_POSSIBLE, x -> x.count(x.counted(x.state(1) - 1)));
        }
    }

    private static void countOfNoPile(RefusedTest at, int behind) {
        for (int pile : new int[] {-1, behind, LEAST, MOST}) {
            at.refuses("count(" + pile + ")", NO_SUCH, x -> x.count(pile));
        }
    }

    private static void finish() {
        for (RefusedTest at : List.of(fresh(), tie(), stopped(), allRightAndStopped(), allWrong(), hopeless())) {
            at.refuses("finish()", NOT_POSSIBLE, PileRecount::finish);
        }
    }

    private static void stop() {
        for (RefusedTest at : List.of(fresh(), tie(), ready(), ten(), underWay(), stopped(), allRightAndStopped(),
            allWrong(), hopeless())) {
            at.refuses("stop()", NOT_POSSIBLE, PileRecount::stop);
        }
    }

    // ---- promises 10 to 12

    private static void ofPile() {
        for (int what : new int[] {0, 4, 8, 9, -1, LEAST, MOST}) {
            ofNoPile(fresh(), 0, what);
            ofNoPile(tie(), 1, what);
            ofNoPile(ten(), 10, what);
        }
        for (RefusedTest at : List.of(tie(), ready(), allRightAndStopped())) {
            for (int what : new int[] {9, -1, LEAST, MOST}) {
                at.refuses("ofPile(0, " + what + ")", BAD_VALUE, x -> x.ofPile(0, what));
            }
        }
    }

    private static void ofNoPile(RefusedTest at, int behind, int what) {
        for (int pile : new int[] {-1, behind, LEAST, MOST}) {
            at.refuses("ofPile(" + pile + ", " + what + ")", NO_SUCH, x -> x.ofPile(pile, what));
        }
    }

    private static void stateAndCounted() {
        for (RefusedTest at : List.of(fresh(), tie(), underWay(), stopped())) {
            for (int what : new int[] {-1, 14, LEAST, MOST}) {
                at.refuses("state(" + what + ")", BAD_VALUE, x -> x.state(what));
            }
            for (int place : new int[] {-1, LEAST, MOST}) {
                at.refuses("counted(" + place + ")", NO_SUCH, x -> x.counted(place));
            }
        }
        fresh().refuses("counted(0)", NO_SUCH, x -> x.counted(0));
        ten().refuses("counted(0)", NO_SUCH, x -> x.counted(0));
        tenAndOneCounted().refuses("counted(1)", NO_SUCH, x -> x.counted(1));
        underWay().refuses("counted(2)", NO_SUCH, x -> x.counted(2));
        allWrong().refuses("counted(3)", NO_SUCH, x -> x.counted(3));
    }

    // ---- promises 13 to 17

    private static void riskOf() {
        int[][] bad = {{0, 0, 1}, {0, 0, 0}, {21, 0, 1}, {21, 21, 21}, {-1, 0, 1}, {LEAST, 0, 1}, {MOST, 1, 1},
            {20, -1, 1}, {20, 21, 1}, {20, LEAST, 1}, {20, MOST, 1}, {1, 2, 1}, {1, -1, 1}, {20, 0, 0}, {20, 0, 21},
            {20, 0, -1}, {20, 0, LEAST}, {20, 0, MOST}, {1, 0, 2}, {1, 1, 0}, {7, 8, 1}, {7, 1, 8}};
        for (int[] of : bad) {
            String call = "riskOf(" + of[0] + ", " + of[1] + ", " + of[2] + ")";
            fresh().refuses(call, BAD_VALUE, x -> x.riskOf(of[0], of[1], of[2]));
            underWay().refuses(call, BAD_VALUE, x -> x.riskOf(of[0], of[1], of[2]));
        }
    }

    private static void atLeastAndOrders() {
        for (RefusedTest at : List.of(fresh(), tie())) {
            at.refuses("atLeast()", NOT_POSSIBLE, PileRecount::atLeast);
            at.refuses("orders(0)", NOT_POSSIBLE, x -> x.orders(0));
            at.refuses("orders(10)", NOT_POSSIBLE, x -> x.orders(10));
            at.refuses("wrongOrders()", NOT_POSSIBLE, PileRecount::wrongOrders);
            at.refuses("suspects()", NOT_POSSIBLE, PileRecount::suspects);
        }
        for (RefusedTest at : List.of(fresh(), tie(), ten(), stopped(), allWrong())) {
            for (int draws : new int[] {-1, 11, LEAST, MOST}) {
                at.refuses("orders(" + draws + ")", BAD_VALUE, x -> x.orders(draws));
            }
        }
    }

    // ---- promises 18 to 21

    private static void put() {
        long[] bad = {0, 32, 127, 128, 255, 256, 0x3100, 0x3132L << 8, 0x310032, 0x31003233, -1, Long.MIN_VALUE,
            Long.MAX_VALUE, 1L << 63 | 0x31, 1L << 16 | 0x31, 1L << 32, 0x31L << 56, 0x31L << 56 | 0x31,
            0x0031313131313120L, 0x2031313131313131L, 0x7f31313131313131L, 0x8031313131313131L, 0xffffffffffffffb1L,
            0x0100313131313131L, 0x3100313131313131L};
        for (long characters : bad) {
            String call = "put(" + characters + ")";
            fresh().refuses(call, BAD_VALUE, x -> x.put(characters));
            withPad(80).refuses(call, BAD_VALUE, x -> x.put(characters));
        }
        withPad(80).refuses("put 1 character", TOO_MANY, x -> x.put('1'));
        for (int most = 1; most <= 7; most++) {
            String text = "1,2,3,4,".substring(0, most + 1);
            withPad(80 - most).refuses("put " + text, TOO_MANY, x -> x.put(Checks.packed(text)));
        }
    }

    private static void make() {
        fresh().refuses("make() of an empty pad", BAD_TEXT, PileRecount::make);
        for (RefusedTest at : List.of(tie(), underWay(), withFault(), withPad(1), withPad(80), withPad(2))) {
            at.refuses("make()", BAD_TEXT, PileRecount::make);
        }
    }

    // ---- promises 22 to 24

    private static void undo() {
        fresh().refuses("undo()", NOT_POSSIBLE, PileRecount::undo);
        new RefusedTest("nothing left to undo", () -> {
            PileRecount x = Situations.ready();
            for (int i = 0; i < 4; i++) {
                x.undo();
            }
            return x;
        }).refuses("undo()", NOT_POSSIBLE, PileRecount::undo);
    }

    private static void saveAndRestore() {
        for (RefusedTest at : List.of(fresh(), ready(), stopped(), withFullHistory())) {
            for (int slot : new int[] {-1, 2, LEAST, MOST}) {
                at.refuses("save(" + slot + ")", BAD_VALUE, x -> x.save(slot));
                at.refuses("restore(" + slot + ")", BAD_VALUE, x -> x.restore(slot));
            }
        }
        fresh().refuses("restore(0)", NOT_POSSIBLE, x -> x.restore(0));
        fresh().refuses("restore(1)", NOT_POSSIBLE, x -> x.restore(1));
        withFullHistory().refuses("restore(0)", NOT_POSSIBLE, x -> x.restore(0));
        underWay().refuses("restore(1)", NOT_POSSIBLE, x -> x.restore(1));
    }
}
