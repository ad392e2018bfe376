import java.util.Arrays;

/** Ballots in piles that are recounted by samples, until the risk is low enough to stop. */
public final class PileRecount {
    public static final int NO_SUCH = -1;
    public static final int BAD_VALUE = -2;
    public static final int BAD_TEXT = -3;
    public static final int TOO_MANY = -4;
    public static final int NOT_POSSIBLE = -5;
    public static final int NONE = -6;

    private static final int FINE = 0;
    private static final int MOST_PILES = 10;
    private static final int MOST_VOTES = 200;
    private static final int MOST_LIMIT = 9999;
    private static final int MOST_CHARACTERS = 80;
    private static final int MOST_CHARACTERS_AT_ONCE = 8;
    private static final int MOST_NUMBER = 999;
    private static final int MOST_CHANGES = 6;
    private static final int MOST_RISK_PILES = 20;
    private static final int SLOTS = 2;
    private static final int CERTAIN = 10000;
    /** Is told on top of numbers that can be below 0. */
    private static final int ON_TOP = 100000;

    private final Recount now;
    private final Recount trial;
    private final Recount[] slots;
    private final History history;
    private final Pad pad;
    private final Reader reader;
    private final Odds odds;

    public PileRecount() {
        now = new Recount();
        trial = new Recount();
        slots = new Recount[SLOTS];
        history = new History();
        pad = new Pad();
        reader = new Reader();
        odds = new Odds();
    }

    // ---- setting up

    public int pile(int zero, int one, int blanks) {
        int error = now.errorOfPile(zero, one, blanks);
        if (error != FINE) {
            return error;
        }
        history.record(now);
        return now.addPile(zero, one, blanks);
    }

    public int finds(int pile, int zero, int one) {
        int error = now.errorOfFind(pile, zero, one);
        if (error != FINE) {
            return error;
        }
        history.record(now);
        return ON_TOP + now.setFound(pile, zero, one);
    }

    public int limit(int limit) {
        if (limit < 1 || limit > MOST_LIMIT) {
            return BAD_VALUE;
        }
        if (now.countedPiles > 0) {
            return NOT_POSSIBLE;
        }
        history.record(now);
        int previous = now.riskLimit;
        now.riskLimit = limit;
        return previous;
    }

    public int seed(int seed) {
        if (seed < 0) {
            return BAD_VALUE;
        }
        history.record(now);
        int previous = now.chooser;
        now.chooser = seed;
        return previous;
    }

    // ---- the recount

    public int draw() {
        if (!now.isOpen() || now.isAllCounted()) {
            return NOT_POSSIBLE;
        }
        history.record(now);
        return now.drawNext();
    }

    public int count(int pile) {
        if (!now.hasPile(pile)) {
            return NO_SUCH;
        }
        if (!now.isOpen() || has(now.countedSet, pile)) {
            return NOT_POSSIBLE;
        }
        history.record(now);
        now.countPile(pile);
        return now.countedPiles;
    }

    public int finish() {
        if (!now.isOpen()) {
            return NOT_POSSIBLE;
        }
        // Drawn on a copy, because nothing may change if one may never stop.
        trial.copyFrom(now);
        int drawn = trial.drawUntilStop();
        if (!trial.mayStopNow()) {
            return NOT_POSSIBLE;
        }
        history.record(now);
        trial.stopped = true;
        now.copyFrom(trial);
        return drawn;
    }

    public int stop() {
        if (!now.isOpen() || !now.mayStopNow()) {
            return NOT_POSSIBLE;
        }
        history.record(now);
        now.stopped = true;
        return now.isRight() ? 1 : 0;
    }

    // ---- what there is

    public int ofPile(int pile, int what) {
        if (!now.hasPile(pile)) {
            return NO_SUCH;
        }
        Pile row = now.rows[pile];
        boolean isCounted = has(now.countedSet, pile);
        switch (what) {
            case 0:
                return row.zero;
            case 1:
                return row.one;
            case 2:
                return row.blanks;
            case 3:
                return row.size();
            case 4:
                return now.placeOf(pile);
            case 5:
                return isCounted ? row.foundZero : NONE;
            case 6:
                return isCounted ? row.foundOne : NONE;
            case 7:
                return isCounted && row.isWorse(now.winner) ? 1 : 0;
            case 8:
                return isCounted || !now.hasWinner() ? NONE : row.swing(now.winner);
            default:
                return BAD_VALUE;
        }
    }

    public int state(int what) {
        switch (what) {
            case 0:
                return now.piles;
            case 1:
                return now.countedPiles;
            case 2:
                return now.winner;
            case 3:
                return now.hasWinner() ? ON_TOP + now.leadBy(0) : NONE;
            case 4:
                return now.hasWinner() ? ON_TOP + now.leadBy(now.countedSet) : NONE;
            case 5:
                return now.hasWinner() ? now.needNow() : NONE;
            case 6:
                return now.riskBehind(now.countedSet, now.countedSet);
            case 7:
                return now.worseOf(now.countedSet);
            case 8:
                return now.stopped ? 1 : 0;
            case 9:
                return now.mayStopNow() ? 1 : 0;
            case 10:
                return now.riskLimit;
            case 11:
                return now.chooser;
            case 12:
                return pad.length;
            case 13:
                return history.length;
            default:
                return BAD_VALUE;
        }
    }

    public int counted(int place) {
        if (place < 0 || place >= now.countedPiles) {
            return NO_SUCH;
        }
        return now.order[place];
    }

    // ---- what if; nothing changes

    public int riskOf(int piles, int counted, int need) {
        if (piles < 1 || piles > MOST_RISK_PILES) {
            return BAD_VALUE;
        }
        if (counted < 0 || counted > piles || need < 1 || need > piles) {
            return BAD_VALUE;
        }
        return riskThatAllAreMissed(piles, counted, need);
    }

    public int atLeast() {
        if (!now.hasWinner()) {
            return NOT_POSSIBLE;
        }
        return now.leastToStop();
    }

    public int orders(int draws) {
        if (draws < 0 || draws > MOST_PILES) {
            return BAD_VALUE;
        }
        if (!now.hasWinner()) {
            return NOT_POSSIBLE;
        }
        odds.follow(now);
        return odds.stops[draws];
    }

    public int wrongOrders() {
        if (!now.hasWinner()) {
            return NOT_POSSIBLE;
        }
        if (now.isRight()) {
            return 0;
        }
        odds.follow(now);
        return odds.allStops();
    }

    public int suspects() {
        if (!now.hasWinner()) {
            return NOT_POSSIBLE;
        }
        int need = now.needNow();
        return need == NONE ? NONE : now.greatestSwings(need);
    }

    // ---- texts

    public int put(long characters) {
        int fresh = charactersIn(characters);
        if (fresh == 0) {
            return BAD_VALUE;
        }
        if (pad.length + fresh > MOST_CHARACTERS) {
            return TOO_MANY;
        }
        for (int behind = fresh - 1; behind >= 0; behind--) {
            pad.append(codeIn(characters, behind));
        }
        return pad.length;
    }

    public int wipe() {
        int length = pad.length;
        pad.length = 0;
        return length;
    }

    public int fault() {
        return reader.faultOf(pad);
    }

    public int make() {
        if (reader.faultOf(pad) != NONE) {
            return BAD_TEXT;
        }
        history.record(now);
        int made = makePiles();
        pad.length = 0;
        return made;
    }

    // ---- undo, saving

    public int undo() {
        if (history.length == 0) {
            return NOT_POSSIBLE;
        }
        history.takeBack(now);
        return history.length;
    }

    public int save(int slot) {
        if (slot < 0 || slot >= SLOTS) {
            return BAD_VALUE;
        }
        if (slots[slot] == null) {
            slots[slot] = new Recount();
        }
        slots[slot].copyFrom(now);
        return now.countedPiles;
    }

    public int restore(int slot) {
        if (slot < 0 || slot >= SLOTS) {
            return BAD_VALUE;
        }
        if (slots[slot] == null) {
            return NOT_POSSIBLE;
        }
        history.record(now);
        now.copyFrom(slots[slot]);
        return now.countedPiles;
    }

    // ---- the piles of the pad

    /** Returns how many piles were made without an error; the pad has no fault. */
    private int makePiles() {
        reader.start();
        int made = 0;
        for (int at = 0; at <= pad.length; at++) {
            boolean isEnd = at == pad.length;
            if (isEnd || pad.codes[at] == ';') {
                if (!makeReadPile()) {
                    return made;
                }
                made++;
            }
            if (!isEnd) {
                reader.take(pad.codes[at]);
            }
        }
        return made;
    }

    private boolean makeReadPile() {
        int zero = reader.numbers[Reader.ZERO];
        int one = reader.numbers[Reader.ONE];
        int blanks = reader.numbers[Reader.BLANKS];
        if (now.errorOfPile(zero, one, blanks) != FINE) {
            return false;
        }
        int pile = now.addPile(zero, one, blanks);
        if (reader.part != Reader.FOUND_ONE) {
            return true;
        }
        int foundZero = reader.numbers[Reader.FOUND_ZERO];
        int foundOne = reader.numbers[Reader.FOUND_ONE];
        if (now.errorOfFind(pile, foundZero, foundOne) != FINE) {
            return false;
        }
        now.setFound(pile, foundZero, foundOne);
        return true;
    }

    // ---- numbers

    private static boolean has(int set, int pile) {
        return (set >> pile & 1) == 1;
    }

    private static boolean isVotes(int number) {
        return number >= 0 && number <= MOST_VOTES;
    }

    private static int codeIn(long characters, int behind) {
        return (int) (characters >>> (8 * behind) & 255);
    }

    /** Returns how many characters the number holds, 0 if it does not hold a row of characters. */
    private static int charactersIn(long characters) {
        int length = 0;
        while (length < MOST_CHARACTERS_AT_ONCE && codeIn(characters, length) != 0) {
            int code = codeIn(characters, length);
            if (code < 33 || code > 126) {
                return 0;
            }
            length++;
        }
        boolean isWhole = length == MOST_CHARACTERS_AT_ONCE || characters >>> (8 * length) == 0;
        return isWhole ? length : 0;
    }

    /** Returns the number of ways to choose some of up to 20 things. */
    private static long choices(int things, int some) {
        if (some > things) {
            return 0;
        }
        long ways = 1;
        for (int i = 1; i <= some; i++) {
            ways = ways * (things - some + i) / i;
        }
        return ways;
    }

    /** Returns the risk that none of the needed piles is among the counted ones. */
    private static int riskThatAllAreMissed(int piles, int counted, int need) {
        long all = choices(piles, counted);
        if (all <= 0) {
            return CERTAIN;
        }
        long missing = CERTAIN * choices(piles - need, counted);
        return (int) ((missing + all - 1) / all);
    }

    private static int factorial(int number) {
        int product = 1;
        for (int i = 2; i <= number; i++) {
            product *= i;
        }
        return product;
    }

    /** A pile: what is reported of it, and what a recount finds in it. */
    private static final class Pile {
        int zero;
        int one;
        int blanks;
        int foundZero;
        int foundOne;

        int size() {
            return zero + one + blanks;
        }

        int reportedLead(int winner) {
            return winner == 0 ? zero - one : one - zero;
        }

        int foundLead(int winner) {
            return winner == 0 ? foundZero - foundOne : foundOne - foundZero;
        }

        int swing(int winner) {
            return reportedLead(winner) + size();
        }

        boolean isWorse(int winner) {
            return foundLead(winner) < reportedLead(winner);
        }

        void copyFrom(Pile other) {
            zero = other.zero;
            one = other.one;
            blanks = other.blanks;
            foundZero = other.foundZero;
            foundOne = other.foundOne;
        }
    }

    /** All that a change can change, and undo, save and restore bring back. */
    private static final class Recount {
        final Pile[] rows;
        int piles;
        /** The side that has more reported votes, or NONE. */
        int winner;
        /** The piles from the greatest swing to the least, of the same the lower pile first. */
        final int[] bySwing;
        /** The counted piles by their places. */
        final int[] order;
        int countedPiles;
        int countedSet;
        int riskLimit;
        int chooser;
        boolean stopped;

        Recount() {
            rows = new Pile[MOST_PILES];
            for (int i = 0; i < MOST_PILES; i++) {
                rows[i] = new Pile();
            }
            winner = NONE;
            bySwing = new int[MOST_PILES];
            order = new int[MOST_PILES];
            riskLimit = 500;
            chooser = 1;
        }

        void copyFrom(Recount other) {
            for (int i = 0; i < MOST_PILES; i++) {
                rows[i].copyFrom(other.rows[i]);
                bySwing[i] = other.bySwing[i];
                order[i] = other.order[i];
            }
            piles = other.piles;
            winner = other.winner;
            countedPiles = other.countedPiles;
            countedSet = other.countedSet;
            riskLimit = other.riskLimit;
            chooser = other.chooser;
            stopped = other.stopped;
        }

        boolean hasPile(int pile) {
            return pile >= 0 && pile < piles;
        }

        boolean hasWinner() {
            return winner != NONE;
        }

        boolean isAllCounted() {
            return countedPiles == piles;
        }

        /** Returns whether piles may be counted, if there are any left. */
        boolean isOpen() {
            return hasWinner() && !stopped;
        }

        int allPiles() {
            return (1 << piles) - 1;
        }

        int errorOfPile(int zero, int one, int blanks) {
            if (!isVotes(zero) || !isVotes(one) || !isVotes(blanks)) {
                return BAD_VALUE;
            }
            if (piles >= MOST_PILES) {
                return TOO_MANY;
            }
            return countedPiles > 0 ? NOT_POSSIBLE : FINE;
        }

        /** Returns the number of the new pile, of which there is no error. */
        int addPile(int zero, int one, int blanks) {
            Pile row = rows[piles];
            row.zero = zero;
            row.one = one;
            row.blanks = blanks;
            row.foundZero = zero;
            row.foundOne = one;
            piles++;
            findWinner();
            rankSwings();
            return piles - 1;
        }

        int errorOfFind(int pile, int zero, int one) {
            if (!hasPile(pile)) {
                return NO_SUCH;
            }
            int size = rows[pile].size();
            // Not zero + one: the sum of two arguments could wrap around.
            if (zero < 0 || one < 0 || zero > size || one > size - zero) {
                return BAD_VALUE;
            }
            return has(countedSet, pile) ? NOT_POSSIBLE : FINE;
        }

        /** Returns how much better for the side 0 the found votes are than the reported ones. */
        int setFound(int pile, int zero, int one) {
            Pile row = rows[pile];
            row.foundZero = zero;
            row.foundOne = one;
            return row.foundLead(0) - row.reportedLead(0);
        }

        void findWinner() {
            int leadOfZero = 0;
            for (int i = 0; i < piles; i++) {
                leadOfZero += rows[i].reportedLead(0);
            }
            winner = leadOfZero > 0 ? 0 : leadOfZero < 0 ? 1 : NONE;
        }

        /** Swings depend on the winner, so that a new pile can change the ranks of all. */
        void rankSwings() {
            for (int i = 0; i < piles; i++) {
                int rank = i;
                int swing = rows[i].swing(winner);
                while (rank > 0 && rows[bySwing[rank - 1]].swing(winner) < swing) {
                    bySwing[rank] = bySwing[rank - 1];
                    rank--;
                }
                bySwing[rank] = i;
            }
        }

        /** Returns the place in which the pile was counted, or NONE. */
        int placeOf(int pile) {
            for (int place = 0; place < countedPiles; place++) {
                if (order[place] == pile) {
                    return place;
                }
            }
            return NONE;
        }

        /** Returns the lead, of the piles of a set by what is found, of the others by what is reported. */
        int leadBy(int foundSet) {
            int lead = 0;
            for (int i = 0; i < piles; i++) {
                lead += has(foundSet, i) ? rows[i].foundLead(winner) : rows[i].reportedLead(winner);
            }
            return lead;
        }

        boolean isRight() {
            return leadBy(allPiles()) > 0;
        }

        /** Returns how many piles of a set are worse by what is found. */
        int worseOf(int foundSet) {
            int worse = 0;
            for (int i = 0; i < piles; i++) {
                if (has(foundSet, i) && rows[i].isWorse(winner)) {
                    worse++;
                }
            }
            return worse;
        }

        /** Returns the fewest piles outside of a set that could turn the lead, or NONE. */
        int needFor(int lead, int set) {
            if (lead <= 0) {
                return 0;
            }
            int together = 0;
            int taken = 0;
            for (int rank = 0; rank < piles; rank++) {
                int pile = bySwing[rank];
                if (!has(set, pile)) {
                    together += rows[pile].swing(winner);
                    taken++;
                    if (together >= lead) {
                        return taken;
                    }
                }
            }
            return NONE;
        }

        int needNow() {
            return needFor(leadBy(countedSet), countedSet);
        }

        /** Returns the set of so many piles that are not counted, those with the greatest swings. */
        int greatestSwings(int many) {
            int set = 0;
            int taken = 0;
            for (int rank = 0; rank < piles && taken < many; rank++) {
                if (!has(countedSet, bySwing[rank])) {
                    set |= 1 << bySwing[rank];
                    taken++;
                }
            }
            return set;
        }

        /**
         * Returns the risk if the piles of a set were counted, and those of another set, a part of
         * it, gave what is found, the rest of it what is reported.
         */
        int riskBehind(int set, int foundSet) {
            if (!hasWinner()) {
                return CERTAIN;
            }
            int lead = leadBy(foundSet);
            if (set == allPiles()) {
                return lead > 0 ? 0 : CERTAIN;
            }
            int need = needFor(lead, set);
            if (need == 0 || worseOf(foundSet) > 0) {
                return CERTAIN;
            }
            if (need == NONE) {
                return 0;
            }
            return riskThatAllAreMissed(piles, Integer.bitCount(set), need);
        }

        boolean mayStopNow() {
            return riskBehind(countedSet, countedSet) <= riskLimit;
        }

        /** Returns the least number of piles behind any of which one may stop, or NONE. */
        int leastToStop() {
            // The bit t tells that one may not stop behind some t of the piles.
            int refused = 0;
            for (int set = 0; set <= allPiles(); set++) {
                boolean isMore = (set & countedSet) == 0;
                if (isMore && riskBehind(countedSet | set, countedSet) > riskLimit) {
                    refused |= 1 << Integer.bitCount(set);
                }
            }
            for (int more = 0; more <= piles - countedPiles; more++) {
                if (!has(refused, more)) {
                    return more;
                }
            }
            return NONE;
        }

        void countPile(int pile) {
            order[countedPiles] = pile;
            countedPiles++;
            countedSet |= 1 << pile;
        }

        /** Returns the pile that is drawn, NONE if none is left. */
        int drawNext() {
            int left = piles - countedPiles;
            if (left <= 0) {
                return NONE;
            }
            chooser = (int) ((chooser * 1103515245L + 12345L) % 2147483648L);
            int pile = notCountedIn(chooser / 65536 % left);
            if (pile != NONE) {
                countPile(pile);
            }
            return pile;
        }

        /** Returns the pile in a place of those that are not counted, or NONE. */
        int notCountedIn(int place) {
            int before = 0;
            for (int i = 0; i < piles; i++) {
                if (!has(countedSet, i)) {
                    if (before == place) {
                        return i;
                    }
                    before++;
                }
            }
            return NONE;
        }

        /** Draws until one may stop or all are counted, and returns how many were drawn. */
        int drawUntilStop() {
            int drawn = 0;
            for (int i = countedPiles; i < piles && !mayStopNow(); i++) {
                drawNext();
                drawn++;
            }
            return drawn;
        }
    }

    /** The states before the latest changes. */
    private static final class History {
        final Recount[] before;
        int length;

        History() {
            before = new Recount[MOST_CHANGES];
            for (int i = 0; i < MOST_CHANGES; i++) {
                before[i] = new Recount();
            }
        }

        void record(Recount recount) {
            if (length >= MOST_CHANGES) {
                dropOldest();
            }
            before[length].copyFrom(recount);
            length++;
        }

        /** The row of the oldest state goes to the end, to be used again. */
        private void dropOldest() {
            Recount oldest = before[0];
            for (int i = 1; i < MOST_CHANGES; i++) {
                before[i - 1] = before[i];
            }
            before[MOST_CHANGES - 1] = oldest;
            length = MOST_CHANGES - 1;
        }

        void takeBack(Recount recount) {
            if (length > 0) {
                length--;
                recount.copyFrom(before[length]);
            }
        }
    }

    /** The characters that were put, by their codes. */
    private static final class Pad {
        final int[] codes = new int[MOST_CHARACTERS];
        int length;

        void append(int code) {
            if (length < MOST_CHARACTERS) {
                codes[length] = code;
                length++;
            }
        }
    }

    /** Reads a row of piles from left to right, and keeps the numbers of the pile that it is in. */
    private static final class Reader {
        static final int ZERO = 0;
        static final int ONE = 1;
        static final int BLANKS = 2;
        static final int FOUND_ZERO = 3;
        static final int FOUND_ONE = 4;
        static final int PARTS = 5;

        final int[] numbers = new int[PARTS];
        int part;
        boolean hasDigit;

        void start() {
            Arrays.fill(numbers, 0);
            part = ZERO;
            hasDigit = false;
        }

        /** Returns the fault of the pad, or NONE. */
        int faultOf(Pad pad) {
            start();
            for (int at = 0; at < pad.length; at++) {
                if (!take(pad.codes[at])) {
                    return at;
                }
            }
            return hasDigit && mayEndBehind(part) ? NONE : pad.length;
        }

        /** Returns whether the character can stand here. */
        boolean take(int code) {
            return code >= '0' && code <= '9' ? takeDigit(code - '0') : takeSign(code);
        }

        private boolean takeDigit(int digit) {
            int number = numbers[part];
            boolean isBehindZero = hasDigit && number == 0;
            if (isBehindZero || number * 10 + digit > MOST_NUMBER) {
                return false;
            }
            numbers[part] = number * 10 + digit;
            hasDigit = true;
            return true;
        }

        private boolean takeSign(int code) {
            int next = partBehind(code);
            if (!hasDigit || next == NONE) {
                return false;
            }
            if (next == ZERO) {
                start();
            }
            part = next;
            hasDigit = false;
            return true;
        }

        /** Returns the part of a pile that begins behind a sign, NONE if the sign cannot stand here. */
        private int partBehind(int code) {
            switch (code) {
                case ',':
                    return part == BLANKS || part == FOUND_ONE ? NONE : part + 1;
                case '=':
                    return part == ONE || part == BLANKS ? FOUND_ZERO : NONE;
                case ';':
                    return mayEndBehind(part) ? ZERO : NONE;
                default:
                    return NONE;
            }
        }

        private static boolean mayEndBehind(int part) {
            return part == ONE || part == BLANKS || part == FOUND_ONE;
        }
    }

    /** Follows all orders in which the piles that are not counted could be drawn. */
    private static final class Odds {
        /** By sets: in how many orders just these piles are drawn without a stop before. */
        final int[] ways = new int[1 << MOST_PILES];
        /** By draws: how many orders of all piles stop behind so many. */
        final int[] stops = new int[MOST_PILES + 1];

        void follow(Recount recount) {
            Arrays.fill(ways, 0);
            Arrays.fill(stops, 0);
            ways[0] = 1;
            for (int set = 0; set <= recount.allPiles(); set++) {
                if (ways[set] > 0) {
                    goOnBehind(set, recount);
                }
            }
        }

        private void goOnBehind(int set, Recount recount) {
            int reached = recount.countedSet | set;
            if (recount.riskBehind(reached, reached) <= recount.riskLimit) {
                int drawn = Integer.bitCount(set);
                int left = recount.piles - recount.countedPiles - drawn;
                stops[drawn] += ways[set] * factorial(left);
                return;
            }
            for (int i = 0; i < recount.piles; i++) {
                if (!has(reached, i)) {
                    ways[set | 1 << i] += ways[set];
                }
            }
        }

        int allStops() {
            int all = 0;
            for (int draws = 0; draws <= MOST_PILES; draws++) {
                all += stops[draws];
            }
            return all;
        }
    }
}
