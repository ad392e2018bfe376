import java.math.BigInteger;
import java.util.ArrayList;
import java.util.Comparator;
import java.util.HashMap;
import java.util.List;
import java.util.Map;
import java.util.Set;
import java.util.regex.Matcher;
import java.util.regex.Pattern;

/** The document once more, in a plain and slow form of its own, to compare answers with. */
final class Model {
    private static final int NO_SUCH = -1;
    private static final int BAD_VALUE = -2;
    private static final int BAD_TEXT = -3;
    private static final int TOO_MANY = -4;
    private static final int NOT_POSSIBLE = -5;
    private static final int NONE = -6;

    private static final String NUMBER = "(0|[1-9][0-9]{0,2})";
    private static final String PILE = NUMBER + "," + NUMBER + "(," + NUMBER + ")?(=" + NUMBER + "," + NUMBER + ")?";
    private static final Pattern TEXT = Pattern.compile(PILE + "(;" + PILE + ")*");

    /** Reported for 0 and 1, blanks, found for 0 and 1. */
    private record Pile(int zero, int one, int blanks, int foundZero, int foundOne) {
        int size() {
            return zero + one + blanks;
        }
    }

    /** Never changed: each change makes a new one. */
    private record State(List<Pile> piles, List<Integer> counted, int limit, long x, boolean stopped) {
        State withPiles(List<Pile> others) {
            return new State(List.copyOf(others), counted, limit, x, stopped);
        }

        State withCounted(int pile) {
            List<Integer> more = new ArrayList<>(counted);
            more.add(pile);
            return new State(piles, List.copyOf(more), limit, x, stopped);
        }

        State withLimit(int other) {
            return new State(piles, counted, other, x, stopped);
        }

        State withX(long other) {
            return new State(piles, counted, limit, other, stopped);
        }

        State withStop() {
            return new State(piles, counted, limit, x, true);
        }
    }

    private State state = new State(List.of(), List.of(), 500, 1, false);
    private final List<State> history = new ArrayList<>();
    private final State[] slots = new State[2];
    private String pad = "";

    private void change(State next) {
        history.add(state);
        if (history.size() > 6) {
            history.remove(0);
        }
        state = next;
    }

    // ---- definitions

    private static int winner(State s) {
        int zero = 0;
        int one = 0;
        for (Pile pile : s.piles) {
            zero += pile.zero;
            one += pile.one;
        }
        return zero == one ? NONE : zero > one ? 0 : 1;
    }

    private static int reported(State s, Pile pile) {
        return (pile.zero - pile.one) * (winner(s) == 0 ? 1 : -1);
    }

    private static int found(State s, Pile pile) {
        return (pile.foundZero - pile.foundOne) * (winner(s) == 0 ? 1 : -1);
    }

    private static int lead(State s) {
        int lead = 0;
        for (int i = 0; i < s.piles.size(); i++) {
            lead += s.counted.contains(i) ? found(s, s.piles.get(i)) : reported(s, s.piles.get(i));
        }
        return lead;
    }

    private static boolean right(State s) {
        return s.piles.stream().mapToInt(pile -> found(s, pile)).sum() > 0;
    }

    private static int swing(State s, int pile) {
        return reported(s, s.piles.get(pile)) + s.piles.get(pile).size();
    }

    private static List<Integer> left(State s) {
        List<Integer> left = new ArrayList<>();
        for (int i = 0; i < s.piles.size(); i++) {
            if (!s.counted.contains(i)) {
                left.add(i);
            }
        }
        return left;
    }

    /** By the greatest sum of so many swings, or fewer, not by ranks of swings. */
    private static int need(State s) {
        if (lead(s) <= 0) {
            return 0;
        }
        List<Integer> left = left(s);
        int[] greatest = new int[left.size() + 1];
        for (int pile : left) {
            int swing = swing(s, pile);
            for (int many = left.size(); many >= 1; many--) {
                greatest[many] = Math.max(greatest[many], greatest[many - 1] + swing);
            }
        }
        for (int many = 1; many <= left.size(); many++) {
            if (greatest[many] >= lead(s)) {
                return many;
            }
        }
        return NONE;
    }

    private static boolean worse(State s, int pile) {
        return s.counted.contains(pile) && found(s, s.piles.get(pile)) < reported(s, s.piles.get(pile));
    }

    private static int worsePiles(State s) {
        return (int) s.counted.stream().filter(pile -> worse(s, pile)).count();
    }

    private static int risk(State s) {
        if (winner(s) == NONE) {
            return 10000;
        }
        if (left(s).isEmpty()) {
            return lead(s) > 0 ? 0 : 10000;
        }
        if (worsePiles(s) > 0 || lead(s) <= 0) {
            return 10000;
        }
        int need = need(s);
        return need == NONE ? 0 : risk(s.piles.size(), s.counted.size(), need);
    }

    private static int risk(int n, int k, int m) {
        BigInteger all = choose(n, k);
        BigInteger[] parts = BigInteger.valueOf(10000).multiply(choose(n - m, k)).divideAndRemainder(all);
        return parts[0].intValue() + (parts[1].signum() > 0 ? 1 : 0);
    }

    private static BigInteger choose(int of, int some) {
        if (some > of) {
            return BigInteger.ZERO;
        }
        return factorial(of).divide(factorial(some)).divide(factorial(of - some));
    }

    private static BigInteger factorial(int number) {
        return number <= 1 ? BigInteger.ONE : BigInteger.valueOf(number).multiply(factorial(number - 1));
    }

    private static boolean mayStop(State s) {
        return winner(s) != NONE && risk(s) <= s.limit;
    }

    /** Without a winner, or when it was stopped, nothing is counted any more. */
    private static boolean closed(State s) {
        return winner(s) == NONE || s.stopped;
    }

    private static State drawn(State s) {
        long x = (s.x * 1103515245L + 12345L) % (1L << 31);
        List<Integer> left = left(s);
        return s.withX(x).withCounted(left.get((int) (x / 65536 % left.size())));
    }

    // ---- setting up

    int pile(int zero, int one, int blanks) {
        int error = pileError(state, zero, one, blanks);
        if (error == 0) {
            change(withPile(state, zero, one, blanks));
            return state.piles.size() - 1;
        }
        return error;
    }

    private static int pileError(State s, int zero, int one, int blanks) {
        for (int votes : new int[] {zero, one, blanks}) {
            if (votes < 0 || votes > 200) {
                return BAD_VALUE;
            }
        }
        return s.piles.size() == 10 ? TOO_MANY : s.counted.isEmpty() ? 0 : NOT_POSSIBLE;
    }

    private static State withPile(State s, int zero, int one, int blanks) {
        List<Pile> piles = new ArrayList<>(s.piles);
        piles.add(new Pile(zero, one, blanks, zero, one));
        return s.withPiles(piles);
    }

    int finds(int pile, int zero, int one) {
        int error = findsError(state, pile, zero, one);
        if (error != 0) {
            return error;
        }
        change(withFound(state, pile, zero, one));
        Pile row = state.piles.get(pile);
        return 100000 + (zero - one) - (row.zero - row.one);
    }

    private static int findsError(State s, int pile, int zero, int one) {
        if (pile < 0 || pile >= s.piles.size()) {
            return NO_SUCH;
        }
        if (zero < 0 || one < 0 || (long) zero + one > s.piles.get(pile).size()) {
            return BAD_VALUE;
        }
        return s.counted.contains(pile) ? NOT_POSSIBLE : 0;
    }

    private static State withFound(State s, int pile, int zero, int one) {
        List<Pile> piles = new ArrayList<>(s.piles);
        Pile row = piles.get(pile);
        piles.set(pile, new Pile(row.zero, row.one, row.blanks, zero, one));
        return s.withPiles(piles);
    }

    int limit(int limit) {
        if (limit < 1 || limit > 9999) {
            return BAD_VALUE;
        }
        if (!state.counted.isEmpty()) {
            return NOT_POSSIBLE;
        }
        int previous = state.limit;
        change(state.withLimit(limit));
        return previous;
    }

    int seed(int seed) {
        if (seed < 0) {
            return BAD_VALUE;
        }
        int previous = (int) state.x;
        change(state.withX(seed));
        return previous;
    }

    // ---- the recount

    int draw() {
        if (closed(state) || left(state).isEmpty()) {
            return NOT_POSSIBLE;
        }
        change(drawn(state));
        return state.counted.get(state.counted.size() - 1);
    }

    int count(int pile) {
        if (pile < 0 || pile >= state.piles.size()) {
            return NO_SUCH;
        }
        if (closed(state) || state.counted.contains(pile)) {
            return NOT_POSSIBLE;
        }
        change(state.withCounted(pile));
        return state.counted.size();
    }

    int finish() {
        if (closed(state)) {
            return NOT_POSSIBLE;
        }
        State next = state;
        while (!mayStop(next)) {
            if (left(next).isEmpty()) {
                return NOT_POSSIBLE;
            }
            next = drawn(next);
        }
        int draws = next.counted.size() - state.counted.size();
        change(next.withStop());
        return draws;
    }

    int stop() {
        if (closed(state) || !mayStop(state)) {
            return NOT_POSSIBLE;
        }
        change(state.withStop());
        return right(state) ? 1 : 0;
    }

    // ---- what there is

    int ofPile(int pile, int what) {
        if (pile < 0 || pile >= state.piles.size()) {
            return NO_SUCH;
        }
        Pile row = state.piles.get(pile);
        boolean counted = state.counted.contains(pile);
        return switch (what) {
            case 0 -> row.zero;
            case 1 -> row.one;
            case 2 -> row.blanks;
            case 3 -> row.size();
            case 4 -> counted ? state.counted.indexOf(pile) : NONE;
            case 5 -> counted ? row.foundZero : NONE;
            case 6 -> counted ? row.foundOne : NONE;
            case 7 -> worse(state, pile) ? 1 : 0;
            case 8 -> counted || winner(state) == NONE ? NONE : swing(state, pile);
            default -> BAD_VALUE;
        };
    }

    int state(int what) {
        boolean won = winner(state) != NONE;
        return switch (what) {
            case 0 -> state.piles.size();
            case 1 -> state.counted.size();
            case 2 -> winner(state);
            case 3 -> won ? 100000 + state.piles.stream().mapToInt(pile -> reported(state, pile)).sum() : NONE;
            case 4 -> won ? 100000 + lead(state) : NONE;
            case 5 -> won ? need(state) : NONE;
            case 6 -> risk(state);
            case 7 -> worsePiles(state);
            case 8 -> state.stopped ? 1 : 0;
            case 9 -> mayStop(state) ? 1 : 0;
            case 10 -> state.limit;
            case 11 -> (int) state.x;
            case 12 -> pad.length();
            case 13 -> history.size();
            default -> BAD_VALUE;
        };
    }

    int counted(int place) {
        return place < 0 || place >= state.counted.size() ? NO_SUCH : state.counted.get(place);
    }

    // ---- what if

    int riskOf(int piles, int counted, int need) {
        boolean bad = piles < 1 || piles > 20 || counted < 0 || counted > piles || need < 1 || need > piles;
        return bad ? BAD_VALUE : risk(piles, counted, need);
    }

    int atLeast() {
        if (winner(state) == NONE) {
            return NOT_POSSIBLE;
        }
        List<Integer> left = left(state);
        State asReported = state;
        for (int pile : left) {
            Pile row = state.piles.get(pile);
            asReported = withFound(asReported, pile, row.zero, row.one);
        }
        for (int more = 0; more <= left.size(); more++) {
            if (mayStopBehindAny(asReported, left, 0, more)) {
                return more;
            }
        }
        return NONE;
    }

    private static boolean mayStopBehindAny(State s, List<Integer> left, int from, int more) {
        if (more == 0) {
            return mayStop(s);
        }
        for (int i = from; i < left.size(); i++) {
            if (!mayStopBehindAny(s.withCounted(left.get(i)), left, i + 1, more - 1)) {
                return false;
            }
        }
        return true;
    }

    int orders(int draws) {
        if (draws < 0 || draws > 10) {
            return BAD_VALUE;
        }
        return winner(state) == NONE ? NOT_POSSIBLE : stops(state, 0, draws, draws, new HashMap<>());
    }

    int wrongOrders() {
        if (winner(state) == NONE) {
            return NOT_POSSIBLE;
        }
        return right(state) ? 0 : stops(state, 0, 0, 10, new HashMap<>());
    }

    /**
     * Counts the orders that stop behind least to most draws, one pile after the other; what is known
     * of the piles that are counted is not counted again, in whatever order they were drawn.
     */
    private static int stops(State s, int drawn, int least, int most, Map<Set<Integer>, Integer> known) {
        if (mayStop(s)) {
            return drawn >= least && drawn <= most ? factorial(left(s).size()).intValue() : 0;
        }
        Set<Integer> counted = Set.copyOf(s.counted);
        Integer before = known.get(counted);
        if (before != null) {
            return before;
        }
        int stops = 0;
        for (int pile : left(s)) {
            stops += stops(s.withCounted(pile), drawn + 1, least, most, known);
        }
        known.put(counted, stops);
        return stops;
    }

    int suspects() {
        if (winner(state) == NONE) {
            return NOT_POSSIBLE;
        }
        int need = need(state);
        if (need == NONE) {
            return NONE;
        }
        List<Integer> left = left(state);
        left.sort(Comparator.comparingInt((Integer pile) -> -swing(state, pile)).thenComparingInt(pile -> pile));
        return left.subList(0, need).stream().mapToInt(pile -> 1 << pile).sum();
    }

    // ---- texts

    int put(long characters) {
        StringBuilder text = new StringBuilder();
        long rest = characters;
        while (rest != 0) {
            int code = (int) (rest & 255);
            if (code < 33 || code > 126) {
                return BAD_VALUE;
            }
            text.insert(0, (char) code);
            rest >>>= 8;
        }
        if (text.length() == 0) {
            return BAD_VALUE;
        }
        if (pad.length() + text.length() > 80) {
            return TOO_MANY;
        }
        pad += text;
        return pad.length();
    }

    int wipe() {
        int length = pad.length();
        pad = "";
        return length;
    }

    int fault() {
        for (int length = 1; length <= pad.length(); length++) {
            Matcher matcher = TEXT.matcher(pad.substring(0, length));
            if (!matcher.matches() && !matcher.hitEnd()) {
                return length - 1;
            }
        }
        return TEXT.matcher(pad).matches() ? NONE : pad.length();
    }

    int make() {
        if (fault() != NONE) {
            return BAD_TEXT;
        }
        State next = state;
        int made = 0;
        for (String text : pad.split(";")) {
            String[] halves = text.split("=");
            int[] votes = numbers(halves[0]);
            int blanks = votes.length == 3 ? votes[2] : 0;
            if (pileError(next, votes[0], votes[1], blanks) != 0) {
                break;
            }
            next = withPile(next, votes[0], votes[1], blanks);
            if (halves.length == 2) {
                int[] found = numbers(halves[1]);
                int pile = next.piles.size() - 1;
                if (findsError(next, pile, found[0], found[1]) != 0) {
                    break;
                }
                next = withFound(next, pile, found[0], found[1]);
            }
            made++;
        }
        change(next);
        pad = "";
        return made;
    }

    private static int[] numbers(String text) {
        String[] parts = text.split(",");
        int[] numbers = new int[parts.length];
        for (int i = 0; i < parts.length; i++) {
            numbers[i] = Integer.parseInt(parts[i]);
        }
        return numbers;
    }

    // ---- undo, saving

    int undo() {
        if (history.isEmpty()) {
            return NOT_POSSIBLE;
        }
        state = history.remove(history.size() - 1);
        return history.size();
    }

    int save(int slot) {
        if (slot != 0 && slot != 1) {
            return BAD_VALUE;
        }
        slots[slot] = state;
        return state.counted.size();
    }

    int restore(int slot) {
        if (slot != 0 && slot != 1) {
            return BAD_VALUE;
        }
        if (slots[slot] == null) {
            return NOT_POSSIBLE;
        }
        change(slots[slot]);
        return state.counted.size();
    }
}
