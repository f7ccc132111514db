import java.util.ArrayList;
import java.util.List;

/**
 * "Nothing changes then": each refused call, and each call that only asks, is made on one of two objects that stand alike;
 * they answer alike to all that can be asked then, to undo() and to restore() to their ends.
 */
public final class RefusedTest extends Due {
    private static final String[] STATES = {"new", "with acts", "of 30 letters", "of a full text", "without a line", "restored",
        "of a text without a rule"};

    private static Asked made(int state) {
        Asked x = new Asked();
        switch (state) {
            case 0: return x;
            case 1: return withActs(x);
            case 2: return ofThirtyLetters(x);
            case 3: return ofAFullText(x);
            case 4: return x.lay("r0,1;");
            case 5:
                withActs(x).ask("restore");
                return x;
            default:
                x.lay("c1,a;r3,*1;saa;").ask("erase", 0);
                return x.lay("c1,a;sab;");
        }
    }

    /** With what can be undone, one kept, room to keep, and a text with a fault. */
    private static Asked withActs(Asked x) {
        x.lay("c1,a;c2,b;c5,q;r0,&1+2;r3,|1&25;r2,&..;r1,1;saabqz;");
        x.ask("insert", 1, 16);
        x.ask("tell", 25, 4);
        x.ask("keep");
        x.ask("rename", 0, 1);
        x.ask("erase", 0);
        x.ask("write", 'x');
        return x;
    }

    /** With more acts than can be undone, no room to put in or to keep. */
    private static Asked ofThirtyLetters(Asked x) {
        x.lay("c1,a;c2,b;r1,&1+2;r2,.;s" + "ab".repeat(15) + ";");
        x.ask("erase", 0);
        x.ask("insert", 0, 25);
        x.ask("tell", 25, 3);
        x.ask("rename", 0, 2);
        x.ask("keep");
        x.ask("erase", 29);
        x.ask("insert", 29, 1);
        x.ask("tell", 2, 4);
        x.ask("rename", 1, 1);
        x.ask("keep");
        x.ask("rename", 1, 3);
        return x;
    }

    private static Asked ofAFullText(Asked x) {
        String text = "c1,a;c5,q;r1,&1+2;r0,.;r2,|.1;sabqa;";
        x.lay(text);
        for (int i = text.length(); i < 200; i++) x.ask("write", ' ');
        return x;
    }

    // ---- what an object shows

    private static void row(StringBuilder seen, Asked x, String call, int from, int to, int... more) {
        seen.append(' ').append(call);
        for (int i = from; i <= to; i++) {
            int[] numbers = new int[1 + more.length];
            numbers[0] = i;
            System.arraycopy(more, 0, numbers, 1, more.length);
            seen.append(' ').append(x.ask(call, numbers));
        }
    }

    private static void standing(StringBuilder seen, Asked x) {
        int letters = x.ask("count", 2);
        row(seen, x, "count", 3, 6);
        row(seen, x, "rule", 0, x.ask("count", 0) - 1, 0);
        row(seen, x, "kind", 0, 25);
        row(seen, x, "letter", 0, letters);
    }

    private static void seen(StringBuilder seen, Asked x) {
        standing(seen, x);
        int letters = x.ask("count", 2), rules = x.ask("count", 0), pieces = x.ask("count", 3);
        row(seen, x, "place", 0, x.ask("count", 1) - 1, 0);
        row(seen, x, "place", 0, x.ask("count", 1) - 1, 1);
        for (int what = 1; what <= 3; what++) row(seen, x, "rule", 0, rules - 1, what);
        row(seen, x, "stand", 1, letters);
        row(seen, x, "isBoundary", 0, letters);
        row(seen, x, "boundary", letters / 2, letters / 2, 0);
        for (int what = 0; what <= 3; what++) row(seen, x, "piece", pieces - 1, pieces - 1, what);
        row(seen, x, "machine", 0, 4);
        row(seen, x, "alike", 0, 5, 3);
        row(seen, x, "known", 0, 5, 1);
        row(seen, x, "back", letters, letters, 0);
        row(seen, x, "least", 0, rules - 1);
        seen.append(" idle ").append(x.ask("idle"));
        row(seen, x, "day", 5, 5, 40, 1);
        seen.append(" fault ").append(x.ask("fault"));
    }

    /** All that can be seen, what was undone, what was kept; the text is the last. */
    private static String seenToTheEnd(Asked x) {
        StringBuilder seen = new StringBuilder();
        seen(seen, x);
        int last = 0;
        for (int i = 0; i < 12 && last >= 0; i++) {
            last = x.ask("undo");
            seen.append(" undo ").append(last);
        }
        standing(seen, x);
        last = 0;
        for (int i = 0; i < 4 && last >= 0; i++) {
            last = x.ask("restore");
            seen.append(" restore ").append(last);
            if (last >= 0) standing(seen, x);
        }
        seen.append(" wipe ").append(x.ask("wipe"));
        return seen.toString();
    }

    // ---- the calls

    private static final class Call {
        final String name;
        final int[] numbers;

        Call(String name, int... numbers) {
            this.name = name;
            this.numbers = numbers;
        }

        String told() {
            StringBuilder told = new StringBuilder(name).append('(');
            for (int i = 0; i < numbers.length; i++) told.append(i > 0 ? ", " : "").append(numbers[i]);
            return told.append(')').toString();
        }
    }

    /** A call with the least and the greatest of each number that it lets be. */
    private static final class Bounds {
        final String name;
        final int[] ends;

        Bounds(String name, int... ends) {
            this.name = name;
            this.ends = ends;
        }

        int numbers() {
            return ends.length / 2;
        }

        /** All numbers the least, or all the greatest. */
        int[] all(int end) {
            int[] all = new int[numbers()];
            for (int i = 0; i < all.length; i++) all[i] = ends[2 * i + end];
            return all;
        }

        List<Call> refused() {
            List<Call> calls = new ArrayList<>();
            for (int i = 0; i < numbers(); i++) {
                int below = ends[2 * i] - 1, above = ends[2 * i + 1] + 1;
                for (int bad : new int[] {below, above, LEAST_INT, GREATEST_INT}) {
                    for (int end = 0; end <= 1; end++) {
                        int[] numbers = all(end);
                        numbers[i] = bad;
                        calls.add(new Call(name, numbers));
                    }
                }
            }
            return calls;
        }
    }

    private static List<Bounds> acts(Asked x) {
        int letters = x.ask("count", 2), rules = x.ask("count", 0);
        return List.of(new Bounds("write", 32, 126), new Bounds("insert", 0, letters, 0, 25), new Bounds("erase", 0, letters - 1),
            new Bounds("tell", 0, 25, 0, 5), new Bounds("rename", 0, rules - 1, 0, 3));
    }

    private static List<Bounds> questions(Asked x) {
        int letters = x.ask("count", 2), rules = x.ask("count", 0), places = x.ask("count", 1), pieces = x.ask("count", 3);
        return List.of(new Bounds("rule", 0, rules - 1, 0, 3), new Bounds("place", 0, places - 1, 0, 1), new Bounds("kind", 0, 25),
            new Bounds("letter", 0, letters), new Bounds("isBoundary", 0, letters), new Bounds("boundary", 0, letters, 0, 1),
            new Bounds("stand", 0, letters), new Bounds("piece", 0, pieces - 1, 0, 3), new Bounds("machine", 0, 4),
            new Bounds("alike", 0, 5, 0, 5), new Bounds("known", 0, 5, 0, 5), new Bounds("back", 0, letters, 0, 1),
            new Bounds("least", 0, rules - 1), new Bounds("day", 0, 9999, 1, 40, 0, 2), new Bounds("count", 0, 6));
    }

    /** The call on an object in that state; then the same is to be seen as without it. */
    private static int nothingChangesBy(int state, Call call, String untouched) {
        Asked x = made(state);
        int got = x.ask(call.name, call.numbers);
        same("what is to be seen of one " + STATES[state] + " behind " + call.told(), seenToTheEnd(x), untouched);
        due("whether one " + STATES[state] + " has had too many calls", x.calls() > Asked.MOST_CALLS ? 1 : 0, 0);
        return got;
    }

    private static void refused(int state, int want, Call call, String untouched) {
        due(call.told() + " of one " + STATES[state], nothingChangesBy(state, call, untouched), want);
    }

    // ---- the tests

    private static void badInEachState() {
        for (int state = 0; state < STATES.length; state++) {
            String untouched = seenToTheEnd(made(state));
            List<Bounds> all = new ArrayList<>(acts(made(state)));
            all.addAll(questions(made(state)));
            for (Bounds bounds : all) {
                for (Call call : bounds.refused()) refused(state, BAD, call, untouched);
            }
        }
    }

    private static void questionsChangeNothing() {
        for (int state = 0; state < STATES.length; state++) {
            String untouched = seenToTheEnd(made(state));
            for (Bounds bounds : questions(made(state))) {
                for (int end = 0; end <= 1; end++) nothingChangesBy(state, new Call(bounds.name, bounds.all(end)), untouched);
            }
            nothingChangesBy(state, new Call("fault"), untouched);
            nothingChangesBy(state, new Call("idle"), untouched);
        }
    }

    private static void noAsThingsStand() {
        for (int state = 0; state < STATES.length; state++) {
            String untouched = seenToTheEnd(made(state));
            Asked x = made(state);
            for (int letter = 0; letter < 26; letter++) {
                refused(state, NO, new Call("tell", letter, x.ask("kind", letter)), untouched);
            }
            for (int r = 0; r < x.ask("count", 0); r++) {
                refused(state, NO, new Call("rename", r, x.ask("rule", r, 0)), untouched);
            }
            if (x.ask("count", 4) == 0) refused(state, NO, new Call("undo"), untouched);
            if (x.ask("count", 5) == 0) refused(state, NO, new Call("restore"), untouched);
            if (state != 2 && state != 4) refused(state, NO, new Call("lay"), untouched);
        }
    }

    private static void noneInEachState() {
        for (int state = 0; state < STATES.length; state++) {
            String untouched = seenToTheEnd(made(state));
            int letters = made(state).ask("count", 2);
            refused(state, NONE, new Call("letter", letters), untouched);
            refused(state, NONE, new Call("boundary", letters, 0), untouched);
            refused(state, NONE, new Call("boundary", 0, 1), untouched);
            refused(state, NONE, new Call("stand", 0), untouched);
        }
    }

    private static void full() {
        String untouched = seenToTheEnd(made(2));
        for (int at = 0; at <= 30; at++) {
            refused(2, FULL, new Call("insert", at, 0), untouched);
            refused(2, FULL, new Call("insert", at, 25), untouched);
        }
        refused(2, FULL, new Call("keep"), untouched);
        untouched = seenToTheEnd(made(3));
        for (int letter : new int[] {32, 'a', ';', 126}) refused(3, FULL, new Call("write", letter), untouched);
    }

    private static void theStatesAreWhatTheyAreFor() {
        int[][] wants = {{4, 9, 17, 7, 0, 0, 0}, {4, 8, 5, -1, 4, 1, -1}, {2, 3, 30, -1, 8, 2, -1}, {3, 5, 4, -1, 0, 0, 200},
            {1, 1, 0, 0, 0, 0, 5}, {4, 8, 6, -1, 0, 0, -1}, {1, 1, 1, 1, 1, 0, 9}};
        for (int state = 0; state < STATES.length; state++) {
            Asked x = made(state);
            for (int what = 0; what <= 6; what++) {
                int want = wants[state][what];
                if (want >= 0) due("count(" + what + ") of one " + STATES[state], x.ask("count", what), want);
            }
        }
    }

    private static void allRefusedInOneRun() {
        Asked x = made(2);
        String untouched = seenToTheEnd(made(2));
        for (Bounds bounds : acts(made(2))) {
            for (int i = 0; i < bounds.numbers(); i++) {
                int[] numbers = bounds.all(1);
                numbers[i]++;
                due(bounds.name + " one too much", x.ask(bounds.name, numbers), BAD);
            }
        }
        due("insert()", x.ask("insert", 30, 25), FULL);
        due("keep()", x.ask("keep"), FULL);
        due("tell()", x.ask("tell", 0, 1), NO);
        due("rename()", x.ask("rename", 1, 3), NO);
        same("what is to be seen", seenToTheEnd(x), untouched);
        due("whether it has had too many calls", x.calls() > Asked.MOST_CALLS ? 1 : 0, 0);
    }

    public static void main(String[] args) {
        test("how the objects stand", RefusedTest::theStatesAreWhatTheyAreFor);
        test("BAD: nothing changes then", RefusedTest::badInEachState);
        test("NO: nothing changes then", RefusedTest::noAsThingsStand);
        test("NONE: nothing changes then", RefusedTest::noneInEachState);
        test("FULL: nothing changes then", RefusedTest::full);
        test("refused calls one behind the other", RefusedTest::allRefusedInOneRun);
        test("what only asks changes nothing", RefusedTest::questionsChangeNothing);
        end("RefusedTest");
    }
}
