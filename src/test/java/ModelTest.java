import java.util.Random;

/** All promises: long runs of calls, chosen by fixed seeds, whose answers are compared with the model's. */
public final class ModelTest {
    private static final Checks CHECKS = new Checks();
    private static final int RUNS = 2500;
    private static final int CALLS = 512;
    private static final int[] ODD = {-1, -2, 10, 11, 14, 21, 200, 201, 9999, 10000, Integer.MAX_VALUE, Integer.MIN_VALUE};
    private static final String[] PIECES = {"0", "1", "7", "12", "30", "50", "199", "200", "201", "999", ",", ",", ",",
        ";", ";", "=", "1,2", "40,30", "5,4,3", "9,9=8,10", "20,10=15,15", "3,2=3,3", "x", "~"};

    private final Random random;
    private final PileRecount real = new PileRecount();
    private final Model model = new Model();
    private final String run;
    private final int mostPiles;
    private final int votes;
    private int calls = 0;

    private ModelTest(int seed) {
        random = new Random(seed);
        run = "run " + seed + ", call ";
        // The model tries every order, so that runs with many piles ask for orders but seldom.
        mostPiles = seed % 25 == 0 ? 10 : 2 + random.nextInt(5);
        votes = random.nextBoolean() ? 12 : 201;
    }

    public static void main(String[] arguments) {
        for (int seed = 0; seed < RUNS; seed++) {
            new ModelTest(seed).go();
        }
        CHECKS.end("ModelTest");
    }

    private void go() {
        if (random.nextInt(4) > 0) {
            setUp();
        }
        while (calls < CALLS) {
            call(random.nextInt(100));
        }
    }

    private void due(String call, int got, int want) {
        calls++;
        if (got != want || calls % 64 == 0) {
            CHECKS.due(run + calls + ": " + call, got, want);
        }
    }

    private void setUp() {
        int limit = 1 + random.nextInt(9999);
        due("limit(" + limit + ")", real.limit(limit), model.limit(limit));
        while (model.state(0) < mostPiles) {
            pile();
        }
    }

    private int number(int below) {
        return random.nextInt(12) == 0 ? ODD[random.nextInt(ODD.length)] : random.nextInt(below);
    }

    private void call(int kind) {
        if (kind < 3) {
            setUpMore();
        } else if (kind < 11) {
            finds();
        } else if (kind < 13) {
            limitOrSeed();
        } else if (kind < 26) {
            recount(kind % 10);
        } else if (kind < 62) {
            look(kind % 4);
        } else if (kind < 76) {
            whatIf(kind % 5);
        } else if (kind < 86) {
            texts(kind % 8);
        } else {
            past(kind % 8);
        }
    }

    private void setUpMore() {
        if (model.state(0) < mostPiles || random.nextInt(20) == 0 && mostPiles == 10) {
            pile();
        }
    }

    private void pile() {
        int zero = random.nextInt(votes);
        int one = random.nextInt(random.nextInt(3) == 0 ? votes : 1 + votes * 2 / 3);
        int blanks = random.nextBoolean() ? 0 : random.nextInt(votes);
        if (random.nextInt(40) == 0) {
            blanks = number(201);
        }
        due("pile(" + zero + ", " + one + ", " + blanks + ")", real.pile(zero, one, blanks), model.pile(zero, one, blanks));
    }

    private void finds() {
        int pile = number(Math.max(1, model.state(0)));
        int size = Math.max(0, model.ofPile(pile, 3));
        int zero = Math.max(0, model.ofPile(pile, 0));
        int one = Math.max(0, model.ofPile(pile, 1));
        if (random.nextInt(3) == 0) {
            zero = number(size + 1);
            one = number(size + 1);
        } else if (random.nextInt(3) == 0) {
            int moved = random.nextInt(5) - 2;
            zero += moved;
            one -= moved;
        }
        due("finds(" + pile + ", " + zero + ", " + one + ")", real.finds(pile, zero, one), model.finds(pile, zero, one));
    }

    private void limitOrSeed() {
        if (random.nextBoolean()) {
            int limit = random.nextInt(10) == 0 ? number(10) : random.nextInt(10001);
            due("limit(" + limit + ")", real.limit(limit), model.limit(limit));
        } else {
            int seed = random.nextInt(5) == 0 ? number(10) : random.nextInt();
            due("seed(" + seed + ")", real.seed(seed), model.seed(seed));
        }
    }

    private void recount(int kind) {
        if (kind < 4) {
            due("draw()", real.draw(), model.draw());
        } else if (kind < 7) {
            int pile = number(Math.max(1, model.state(0)));
            due("count(" + pile + ")", real.count(pile), model.count(pile));
        } else if (kind < 8) {
            due("finish()", real.finish(), model.finish());
        } else {
            due("stop()", real.stop(), model.stop());
        }
    }

    private void look(int kind) {
        if (kind < 2) {
            int what = number(14);
            due("state(" + what + ")", real.state(what), model.state(what));
        } else if (kind < 3) {
            int pile = number(Math.max(1, model.state(0)));
            int what = number(9);
            due("ofPile(" + pile + ", " + what + ")", real.ofPile(pile, what), model.ofPile(pile, what));
        } else {
            int place = number(Math.max(1, model.state(1)));
            due("counted(" + place + ")", real.counted(place), model.counted(place));
        }
    }

    private void whatIf(int kind) {
        boolean isDear = model.state(0) - model.state(1) > 6;
        if (kind < 1) {
            int piles = number(21);
            int counted = number(Math.max(1, Math.min(piles, 21)));
            int need = number(Math.max(1, Math.min(piles, 21)));
            due("riskOf(" + piles + ", " + counted + ", " + need + ")", real.riskOf(piles, counted, need),
                model.riskOf(piles, counted, need));
        } else if (kind < 2) {
            due("suspects()", real.suspects(), model.suspects());
        } else if (isDear) {
            due("state(6)", real.state(6), model.state(6));
        } else if (kind < 3) {
            due("atLeast()", real.atLeast(), model.atLeast());
        } else if (kind < 4) {
            int draws = number(7);
            due("orders(" + draws + ")", real.orders(draws), model.orders(draws));
        } else {
            due("wrongOrders()", real.wrongOrders(), model.wrongOrders());
        }
    }

    private void texts(int kind) {
        if (kind < 5) {
            String piece = PIECES[random.nextInt(PIECES.length)];
            long characters = random.nextInt(30) == 0 ? random.nextLong() : packedEnd(piece);
            due("put(" + characters + ")", real.put(characters), model.put(characters));
        } else if (kind < 6) {
            due("fault()", real.fault(), model.fault());
        } else if (kind < 7) {
            due("make()", real.make(), model.make());
        } else if (random.nextInt(3) == 0 || model.fault() == 0) {
            due("wipe()", real.wipe(), model.wipe());
        }
    }

    /** Packs a piece, at times with a sign behind it, at times with a number in a wrong form. */
    private long packedEnd(String piece) {
        long packed = Checks.packed(piece.substring(0, Math.min(8, piece.length())));
        return random.nextInt(60) == 0 ? packed << 16 | '1' : packed;
    }

    private void past(int kind) {
        int slot = random.nextInt(10) == 0 ? number(3) : random.nextInt(2);
        if (kind < 4) {
            due("undo()", real.undo(), model.undo());
        } else if (kind < 6) {
            due("save(" + slot + ")", real.save(slot), model.save(slot));
        } else {
            due("restore(" + slot + ")", real.restore(slot), model.restore(slot));
        }
    }
}
