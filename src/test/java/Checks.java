import java.util.List;
import java.util.Objects;

/** Counts answers that are not due, and ends a test's run with exit code 1 if there was one. */
final class Checks {
    private int checked = 0;
    private int wrong = 0;

    void due(String call, Object got, Object want) {
        checked++;
        if (!Objects.equals(got, want)) {
            wrong++;
            System.out.println(call + " answered " + got + ", due is " + want);
        }
    }

    /** Compares the numbers of a recount with those that are due, from state(0) on. */
    void dueStates(String when, PileRecount recount, int... want) {
        for (int what = 0; what < want.length; what++) {
            due(when + ": state(" + what + ")", recount.state(what), want[what]);
        }
    }

    /** Compares what is seen of two recounts, and tells the first difference alone. */
    void dueLooks(String when, List<String> got, List<String> want) {
        int at = 0;
        while (at < want.size() - 1 && at < got.size() - 1 && got.get(at).equals(want.get(at))) {
            at++;
        }
        due(when + ": look " + at, got.get(at), want.get(at));
    }

    void end(String test) {
        System.out.println(test + ": " + (checked - wrong) + " of " + checked + " answers are as due");
        if (wrong > 0 || checked == 0) {
            System.exit(1);
        }
    }

    /** Puts a text on the pad, up to 8 characters a call, and returns what the last call answers. */
    static int putText(PileRecount recount, String text) {
        int answer = 0;
        for (int from = 0; from < text.length(); from += 8) {
            answer = recount.put(packed(text.substring(from, Math.min(from + 8, text.length()))));
        }
        return answer;
    }

    static long packed(String characters) {
        long packed = 0;
        for (char character : characters.toCharArray()) {
            packed = packed << 8 | character;
        }
        return packed;
    }
}
