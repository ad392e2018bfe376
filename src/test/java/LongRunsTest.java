import java.util.ArrayDeque;
import java.util.ArrayList;
import java.util.Arrays;
import java.util.Collections;
import java.util.Deque;
import java.util.HashSet;
import java.util.List;
import java.util.Map;
import java.util.Random;
import java.util.Set;
import java.util.TreeMap;
import java.util.TreeSet;

/**
 * All promises: runs of 512 calls of one object, in which calls of all methods follow each other; each
 * answer is compared with the model's. Each method follows each other one and itself, and each is the
 * 512th call of some runs.
 */
public final class LongRunsTest {
    private static final Checks CHECKS = new Checks();
    private static final int CALLS = 512;
    private static final String[] METHODS = {"pile", "finds", "limit", "seed", "draw", "count", "finish", "stop",
        "ofPile", "state", "counted", "riskOf", "atLeast", "orders", "wrongOrders", "suspects", "put", "wipe",
        "fault", "make", "undo", "save", "restore"};
    /** The errors that the document names for each method, and NONE (-6) where it names it. */
    private static final String ERRORS = "pile -2 -4 -5, finds -1 -2 -5, limit -2 -5, seed -2, draw -5, count -1 -5,"
        + " finish -5, stop -5, ofPile -1 -2 -6, state -2 -6, counted -1, riskOf -2, atLeast -5 -6, orders -2 -5,"
        + " wrongOrders -5, suspects -5 -6, put -2 -4, wipe, fault -6, make -3, undo -5, save -2, restore -2 -5";
    private static final int RUNS = 4 * METHODS.length;
    private static final int[] ODD = {-1, Integer.MIN_VALUE, Integer.MAX_VALUE, 10, 201, 10000};

    /** Of all runs: which method followed which, and which answers below 0 and others there were. */
    private static final Set<String> FOLLOWED = new HashSet<>();
    private static final Map<String, Set<Integer>> ANSWERED = new TreeMap<>();

    private final int run;
    private final Random random;
    private final int mostPiles;
    private final PileRecount real = new PileRecount();
    private final Model model = new Model();
    private int calls = 0;
    private String before = "";

    private LongRunsTest(int run) {
        this.run = run;
        random = new Random(run);
        mostPiles = new int[] {10, 4, 6, 5}[run / METHODS.length];
    }

    public static void main(String[] arguments) {
        for (int run = 0; run < RUNS; run++) {
            new LongRunsTest(run).go();
        }
        CHECKS.due("pairs of methods that followed each other", FOLLOWED.size(), METHODS.length * METHODS.length);
        dueAnswers();
        CHECKS.end("LongRunsTest");
    }

    /** Each error, and NONE, was answered, no other one was, and each method did what it does. */
    private static void dueAnswers() {
        for (String errors : ERRORS.split(", ")) {
            String[] parts = errors.split(" ");
            Set<Integer> due = new TreeSet<>(Set.of(1));
            for (String error : Arrays.asList(parts).subList(1, parts.length)) {
                due.add(Integer.parseInt(error));
            }
            CHECKS.due("errors of " + parts[0] + ", and 1 for other answers", ANSWERED.get(parts[0]), due);
        }
    }

    private void go() {
        List<Integer> methods = methodsInTurn(random);
        setUp();
        for (int at = 0; calls < CALLS - 1; at++) {
            call(METHODS[methods.get(at % methods.size())]);
            comeBack();
        }
        call(METHODS[run % METHODS.length]);
        CHECKS.due("run " + run + ": calls", calls, CALLS);
    }

    /** Goes back from some stops at once: hardly anything is possible behind one. */
    private void comeBack() {
        if (model.state(8) == 1 && calls < CALLS - 1 && random.nextInt(3) == 0) {
            call(random.nextBoolean() ? "undo" : "restore");
        }
    }

    /** Returns a ring of methods in which each of them follows each one just once. */
    private static List<Integer> methodsInTurn(Random random) {
        List<Deque<Integer>> next = new ArrayList<>();
        for (int method = 0; method < METHODS.length; method++) {
            List<Integer> all = new ArrayList<>();
            for (int other = 0; other < METHODS.length; other++) {
                all.add(other);
            }
            Collections.shuffle(all, random);
            next.add(new ArrayDeque<>(all));
        }
        List<Integer> ring = new ArrayList<>();
        Deque<Integer> open = new ArrayDeque<>(List.of(0));
        while (!open.isEmpty()) {
            if (next.get(open.peek()).isEmpty()) {
                ring.add(open.pop());
            } else {
                open.push(next.get(open.peek()).poll());
            }
        }
        Collections.reverse(ring);
        return ring.subList(1, ring.size());
    }

    /** Begins half of the runs with piles that are saved, so that there is much to come back to. */
    private void setUp() {
        if (run % 2 == 0) {
            int limit = 1 + random.nextInt(8000);
            due("limit", limit, real.limit(limit), model.limit(limit));
            while (model.state(0) < mostPiles - random.nextInt(2)) {
                call("pile");
                call("finds");
            }
            due("save", 0, real.save(0), model.save(0));
        }
        for (int times = run % 4 == 1 ? 10 : 0; times > 0; times--) {
            put("12,34=5,");
        }
    }

    private void due(String method, Object arguments, int got, int want) {
        calls++;
        CHECKS.due("run " + run + ", call " + calls + ": " + method + "(" + arguments + ")", got, want);
        ANSWERED.computeIfAbsent(method, key -> new TreeSet<>()).add(got < 0 ? got : 1);
        if (!before.isEmpty()) {
            FOLLOWED.add(before + " " + method);
        }
        before = method;
    }

    private void call(String method) {
        int number = odd(random.nextInt(11));
        int slot = number > 9 ? 2 : isUntouched() ? 0 : 1;
        int back = number > 9 ? 2 : number > 7 ? 1 : 0;
        int limit = odd(1 + random.nextInt(9999));
        int seed = odd(random.nextInt(Integer.MAX_VALUE));
        int pile = odd(random.nextInt(1 + model.state(0)));
        int draws = odd(random.nextInt(1 + model.state(0) - model.state(1)));
        switch (method) {
            case "pile" -> pile();
            case "finds" -> finds(pile);
            case "limit" -> due(method, limit, real.limit(limit), model.limit(limit));
            case "seed" -> due(method, seed, real.seed(seed), model.seed(seed));
            case "draw" -> due(method, "", real.draw(), model.draw());
            case "count" -> due(method, pile, real.count(pile), model.count(pile));
            case "finish" -> due(method, "", real.finish(), model.finish());
            case "stop" -> due(method, "", real.stop(), model.stop());
            case "ofPile" -> due(method, pile + ", " + number, real.ofPile(pile, number), model.ofPile(pile, number));
            case "state" -> due(method, number + 4, real.state(number + 4), model.state(number + 4));
            case "counted" -> due(method, number / 2, real.counted(number / 2), model.counted(number / 2));
            case "riskOf" -> riskOf();
            case "atLeast" -> due(method, "", real.atLeast(), model.atLeast());
            case "orders" -> due(method, draws, real.orders(draws), model.orders(draws));
            case "wrongOrders" -> due(method, "", real.wrongOrders(), model.wrongOrders());
            case "suspects" -> due(method, "", real.suspects(), model.suspects());
            case "put" -> put(piece());
            case "wipe" -> due(method, "", real.wipe(), model.wipe());
            case "fault" -> due(method, "", real.fault(), model.fault());
            case "make" -> due(method, "", real.make(), model.make());
            case "undo" -> due(method, "", real.undo(), model.undo());
            case "save" -> due(method, slot, real.save(slot), model.save(slot));
            case "restore" -> due(method, back, real.restore(back), model.restore(back));
            default -> CHECKS.due("a call of " + method, false, true);
        }
    }

    private int odd(int number) {
        return random.nextInt(16) == 0 ? ODD[random.nextInt(ODD.length)] : number;
    }

    /** Whether there are piles and none is counted: such a state is kept in the slot 0. */
    private boolean isUntouched() {
        return model.state(0) > 1 && model.state(1) == 0;
    }

    private void pile() {
        boolean isMore = model.state(0) < mostPiles || mostPiles == 10;
        int zero = isMore ? odd(10 + random.nextInt(20)) : -1;
        int one = odd(8 + random.nextInt(20));
        int blanks = odd(random.nextInt(10));
        String votes = zero + ", " + one + ", " + blanks;
        due("pile", votes, real.pile(zero, one, blanks), model.pile(zero, one, blanks));
    }

    /** Often what is reported, or some votes moved, so that the outcome hangs on it. */
    private void finds(int pile) {
        int moved = random.nextInt(4) == 0 ? random.nextInt(18) - 10 : 0;
        int zero = Math.max(0, model.ofPile(pile, 0)) + odd(moved);
        int one = Math.max(0, model.ofPile(pile, 1)) - moved;
        due("finds", pile + ", " + zero + ", " + one, real.finds(pile, zero, one), model.finds(pile, zero, one));
    }

    private void riskOf() {
        int piles = odd(1 + random.nextInt(20));
        int most = Math.max(1, Math.min(20, piles));
        int counted = odd(random.nextInt(1 + most));
        int need = odd(1 + random.nextInt(most));
        due("riskOf", piles + ", " + counted + ", " + need, real.riskOf(piles, counted, need),
            model.riskOf(piles, counted, need));
    }

    /** Returns characters that mostly go on where a pad without a fault ends. */
    private String piece() {
        String[] starts = {"20,18", "30,2,9", "9,8=9,8", "15,15", "7,31,4", "6,201", "5,4=9,1"};
        String[] behind = {";20,19", ";9,1,7", ";8,9=9,8", ";3,30", "=", "x", ";1,1;1,1", " "};
        String[] others = {"1,2", "0,0", ";", "3", ",4"};
        int fault = model.fault();
        String[] pieces = fault == PileRecount.NONE ? behind : model.state(12) == 0 ? starts : others;
        return pieces[random.nextInt(pieces.length)];
    }

    private void put(String characters) {
        long packed = Checks.packed(characters);
        due("put", characters, real.put(packed), model.put(packed));
    }
}
