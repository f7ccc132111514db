import java.util.Set;
import java.util.TreeSet;

/**
 * What a rule still lets come behind the letters of a piece: rows, one behind the other, opened by nothing but what each
 * sign says. A rest of no row is whole. There are no places here, so that it can stand beside what is told by places.
 */
final class Rests {
    private final String row;
    private final boolean isLoose, isShort;
    private Set<String> rests = new TreeSet<>();

    Rests(String row, int kind) {
        this.row = row;
        isLoose = kind == 1 || kind == 3;
        isShort = kind == 2 || kind == 3;
    }

    void begin(int x) {
        rests = new TreeSet<>();
        take(row, x, rests);
    }

    /** Whether it still is the beginning of something that the rule lets be. */
    boolean goOn(int x) {
        Set<String> next = new TreeSet<>();
        for (String rest : rests) {
            if (!isShort || !isWhole(rest)) take(rest, x, next);
            if (isLoose && x == 5) next.add(rest);
        }
        rests = next;
        return !rests.isEmpty();
    }

    boolean isBegun() {
        return !rests.isEmpty();
    }

    boolean isWhole() {
        for (String rest : rests) if (isWhole(rest)) return true;
        return false;
    }

    /** The fewest letters of something that the row lets be. */
    static int fewestLetters(String row) {
        Set<String> rests = Set.of(row);
        for (int letters = 1; letters <= 20; letters++) {
            Set<String> next = new TreeSet<>();
            for (String rest : rests) {
                for (int x = 0; x <= 5; x++) take(rest, x, next);
            }
            for (String rest : next) if (isWhole(rest)) return letters;
            rests = next;
        }
        return 99;
    }

    private static boolean isWhole(String rest) {
        Set<String> opened = new TreeSet<>();
        open(rest, opened, new TreeSet<>());
        return opened.contains("");
    }

    private static void take(String rest, int x, Set<String> into) {
        Set<String> opened = new TreeSet<>();
        open(rest, opened, new TreeSet<>());
        for (String one : opened) {
            if (!one.isEmpty() && (one.charAt(0) == '.' || one.charAt(0) == '0' + x)) into.add(one.substring(1));
        }
    }

    /** All that it may be, of no row or a class or . ahead. */
    private static void open(String rest, Set<String> into, Set<String> seen) {
        if (!seen.add(rest)) return;
        if (rest.isEmpty() || "012345.".indexOf(rest.charAt(0)) >= 0) {
            into.add(rest);
            return;
        }
        String part = firstRow(rest.substring(1)), behind = rest.substring(1 + part.length());
        switch (rest.charAt(0)) {
            case '&':
                open(part + behind, into, seen);
                break;
            case '|':
                String other = firstRow(behind), more = behind.substring(other.length());
                open(part + more, into, seen);
                open(other + more, into, seen);
                break;
            case '?':
                open(part + behind, into, seen);
                open(behind, into, seen);
                break;
            case '*':
                open(part + '*' + part + behind, into, seen);
                open(behind, into, seen);
                break;
            default:
                open(part + '*' + part + behind, into, seen);
                break;
        }
    }

    private static String firstRow(String rows) {
        int due = 1, at = 0;
        while (due > 0) {
            char sign = rows.charAt(at++);
            due += sign == '&' || sign == '|' ? 1 : sign == '*' || sign == '+' || sign == '?' ? 0 : -1;
        }
        return rows.substring(0, at);
    }
}
