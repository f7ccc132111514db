/** What the tests share: answers beside those that are due, new objects with a text laid, what a line shows. */
abstract class Due {
    static final int BAD = -1, NO = -2, FULL = -3, NONE = -4;
    static final int LEAST_INT = Integer.MIN_VALUE, GREATEST_INT = Integer.MAX_VALUE;
    static final String ALPHABET = "abcdefghijklmnopqrstuvwxyz";
    static final String THIRTY = ALPHABET + "abcd";

    /** Beyond every line, so that a broken class does not keep a test from its end. */
    private static final int FAR = 40;
    private static final int MOST_TOLD = 40;
    private static int wrong;
    private static String told = "";

    static void due(String call, int got, int want) {
        same(call, "" + got, "" + want);
    }

    static void same(String what, String got, String want) {
        if (!got.equals(want) && wrong++ < MOST_TOLD) {
            System.out.println(told + ": " + what + " is " + got + ", due is " + want);
        }
    }

    /** One test of what the document says in these words. */
    static void test(String words, Runnable test) {
        told = words;
        test.run();
    }

    static void end(String name) {
        System.out.println(name + ": " + (wrong == 0 ? "all as due" : wrong + " wrong"));
        if (wrong != 0) System.exit(1);
    }

    static BoundaryRules put(BoundaryRules x, String text) {
        x.wipe();
        for (int i = 0; i < text.length(); i++) x.write(text.charAt(i));
        return x;
    }

    static BoundaryRules laid(String text) {
        BoundaryRules x = put(new BoundaryRules(), text);
        due("lay() of " + text + " < 1", x.lay() < 1 ? 1 : 0, 0);
        return x;
    }

    static int faultOf(String text) {
        return put(new BoundaryRules(), text).fault();
    }

    static String line(BoundaryRules x) {
        StringBuilder line = new StringBuilder();
        for (int at = 0; at < FAR && x.letter(at) >= 0; at++) line.append((char) ('a' + x.letter(at)));
        return line.toString();
    }

    static String bounds(BoundaryRules x) {
        StringBuilder bounds = new StringBuilder();
        for (int at = 0; at < FAR && x.isBoundary(at) >= 0; at++) bounds.append(x.isBoundary(at));
        return bounds.toString();
    }

    /** The line with | where a piece ends in its midst. */
    static String parted(BoundaryRules x) {
        StringBuilder parted = new StringBuilder();
        for (int at = 0; at < FAR && x.letter(at) >= 0; at++) {
            if (at > 0 && x.isBoundary(at) == 1) parted.append('|');
            parted.append((char) ('a' + x.letter(at)));
        }
        return parted.toString();
    }

    static String kinds(BoundaryRules x) {
        StringBuilder kinds = new StringBuilder();
        for (int letter = 0; letter < 26; letter++) kinds.append(x.kind(letter));
        return kinds.toString();
    }

    static String stands(BoundaryRules x) {
        StringBuilder stands = new StringBuilder();
        for (int at = 1; at < FAR && x.stand(at) >= 0; at++) stands.append(at > 1 ? " " : "").append(x.stand(at));
        return stands.toString();
    }

    static String counts(BoundaryRules x) {
        StringBuilder counts = new StringBuilder();
        for (int what = 0; what <= 6; what++) counts.append(what > 0 ? " " : "").append(x.count(what));
        return counts.toString();
    }

    static String machines(BoundaryRules x) {
        StringBuilder machines = new StringBuilder();
        for (int what = 0; what <= 4; what++) machines.append(what > 0 ? " " : "").append(x.machine(what));
        return machines.toString();
    }
}
