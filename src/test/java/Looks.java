import java.util.ArrayList;
import java.util.List;
import java.util.function.Supplier;

/** All that a recount shows, as texts, so that two recounts can be compared. */
final class Looks {
    /** They end a pad that ends too early in ways of their own, so that its characters come to light. */
    private static final String[] ENDS = {"", "0", ",0", "1,1", "=0,0", ";1,1"};

    private Looks() {
    }

    /** What is told by calls that change nothing. */
    static String now(PileRecount x) {
        StringBuilder look = new StringBuilder("state");
        for (int what = 0; what <= 13; what++) {
            look.append(' ').append(x.state(what));
        }
        for (int pile = 0; pile < x.state(0); pile++) {
            look.append(", pile ").append(pile);
            for (int what = 0; what <= 8; what++) {
                look.append(' ').append(x.ofPile(pile, what));
            }
        }
        look.append(", counted");
        for (int place = 0; place <= x.state(1); place++) {
            look.append(' ').append(x.counted(place));
        }
        return look.append(whatIf(x)).append(", fault ").append(x.fault()).toString();
    }

    private static String whatIf(PileRecount x) {
        StringBuilder look = new StringBuilder(", at least ").append(x.atLeast()).append(", orders");
        for (int draws = 0; draws <= 10; draws++) {
            look.append(' ').append(x.orders(draws));
        }
        look.append(", wrong orders ").append(x.wrongOrders());
        return look.append(", suspects ").append(x.suspects()).toString();
    }

    /** The same, and what recounts find in the piles: it shows once they are counted. */
    static String withFinds(PileRecount x) {
        StringBuilder look = new StringBuilder(now(x)).append(", counts");
        for (int pile = 0; pile < x.state(0); pile++) {
            look.append(' ').append(x.count(pile)).append(' ').append(x.ofPile(pile, 5));
            look.append(' ').append(x.ofPile(pile, 6));
        }
        return look.toString();
    }

    /** Looks at a recount, its history, its slots and its pad; each look uses up a new one. */
    static List<String> everywhere(Supplier<PileRecount> maker) {
        List<String> looks = new ArrayList<>();
        for (int times = 0; times <= 7; times++) {
            looks.add(behindUndo(maker.get(), times));
        }
        for (int slot = 0; slot <= 1; slot++) {
            PileRecount x = maker.get();
            looks.add("restore " + x.restore(slot) + ", " + withFinds(x));
        }
        for (String end : ENDS) {
            PileRecount x = maker.get();
            Checks.putText(x, end);
            looks.add("make " + x.fault() + " " + x.make() + ", " + withFinds(x));
        }
        return looks;
    }

    private static String behindUndo(PileRecount x, int times) {
        StringBuilder look = new StringBuilder("undo");
        for (int i = 0; i < times; i++) {
            look.append(' ').append(x.undo());
        }
        return look.append(", ").append(withFinds(x)).toString();
    }
}
