import java.util.ArrayDeque;
import java.util.ArrayList;
import java.util.Arrays;
import java.util.Deque;
import java.util.HashSet;
import java.util.List;
import java.util.Set;
import java.util.TreeSet;
import java.util.regex.Matcher;
import java.util.regex.Pattern;

/**
 * The document once more, in the slowest and plainest form: trees, sets and whole copies where the program
 * has bits, piles and steps back. Nothing is kept that can be found anew.
 */
final class PlainModel {
    static final int BAD = -1, NO = -2, FULL = -3, NONE = -4;

    private static final Pattern ITEM =
        Pattern.compile("c([0-5]),([a-z]{1,26});|r([0-3]),([0-5.&|*+?]{1,16});|s([a-z]{0,30});");

    /** A sign of a row with its parts, and the sign that it is a part of. */
    static final class Node {
        char sign;
        Node over;
        int place = -1;
        final List<Node> parts = new ArrayList<>();
    }

    static final class Row {
        Node root;
        final List<Node> leaves = new ArrayList<>();
        int read;
    }

    /** What KEPT and UNDONE bring again. */
    static final class State {
        int[] classes = new int[26];
        int[] kinds = new int[4];
        List<Integer> line = new ArrayList<>();

        State copy() {
            State s = new State();
            s.classes = classes.clone();
            s.kinds = kinds.clone();
            s.line = new ArrayList<>(line);
            return s;
        }

        int classAt(int at) {
            return classes[line.get(at)];
        }
    }

    private String text = "";
    private List<Row> rules = new ArrayList<>();
    private List<Node> places = new ArrayList<>();
    private State now = new State();
    private final Deque<State> before = new ArrayDeque<>();
    private final Deque<State> kept = new ArrayDeque<>();

    PlainModel() {
        text = "c1,aeiou;c2,bcdfg;c3,xyz;c5,q;r0,&+2?1;r1,&1*|12;r2,&3&.3;r0,+3;sbaqbxyzaqqebcxqzz;";
        lay();
        text = "";
    }

    // ---- the text

    int write(int letter) {
        if (letter < 32 || letter > 126) return BAD;
        if (text.length() == 200) return FULL;
        text += (char) letter;
        return text.length();
    }

    int wipe() {
        int was = text.length();
        text = "";
        return was;
    }

    private static Row row(String signs) {
        Row row = new Row();
        row.root = node(row, signs, null);
        return row.root != null && row.read == signs.length() ? row : null;
    }

    private static Node node(Row row, String signs, Node over) {
        if (row.read >= signs.length()) return null;
        Node n = new Node();
        n.over = over;
        n.sign = signs.charAt(row.read++);
        int parts = n.sign == '&' || n.sign == '|' ? 2 : n.sign == '*' || n.sign == '+' || n.sign == '?' ? 1 : 0;
        if (parts == 0) row.leaves.add(n);
        for (int i = 0; i < parts; i++) {
            Node part = node(row, signs, n);
            if (part == null) return null;
            n.parts.add(part);
        }
        return n;
    }

    int fault() {
        int from = 0, rulesSeen = 0, placesSeen = 0;
        Matcher m = ITEM.matcher(text);
        while (from < text.length()) {
            m.region(from, text.length());
            if (!m.lookingAt()) return from;
            if (m.group(4) != null) {
                Row row = row(m.group(4));
                if (row == null) return from;
                rulesSeen++;
                placesSeen += row.leaves.size();
                if (rulesSeen > 4 || placesSeen > 10) return from;
            }
            from = m.end();
        }
        return NONE;
    }

    int lay() {
        if (fault() != NONE || text.indexOf("r0,") < 0 && text.indexOf("r1,") < 0
            && text.indexOf("r2,") < 0 && text.indexOf("r3,") < 0) return NO;
        rules = new ArrayList<>();
        places = new ArrayList<>();
        now = new State();
        before.clear();
        kept.clear();
        Matcher m = ITEM.matcher(text);
        while (m.find()) {
            if (m.group(1) != null) {
                for (char c : m.group(2).toCharArray()) now.classes[c - 'a'] = Integer.parseInt(m.group(1));
            } else if (m.group(3) != null) {
                now.kinds[rules.size()] = Integer.parseInt(m.group(3));
                Row row = row(m.group(4));
                rules.add(row);
                for (Node leaf : row.leaves) {
                    leaf.place = places.size();
                    places.add(leaf);
                }
            } else {
                now.line = new ArrayList<>();
                for (char c : m.group(5).toCharArray()) now.line.add(c - 'a');
            }
        }
        return rules.size();
    }

    // ---- rows

    private static boolean mayLack(Node n) {
        switch (n.sign) {
            case '&': return mayLack(n.parts.get(0)) && mayLack(n.parts.get(1));
            case '|': return mayLack(n.parts.get(0)) || mayLack(n.parts.get(1));
            case '+': return mayLack(n.parts.get(0));
            case '*': case '?': return true;
            default: return false;
        }
    }

    private static void first(Node n, Set<Integer> into) {
        if (n.place >= 0) {
            into.add(n.place);
        } else if (n.sign == '&') {
            first(n.parts.get(0), into);
            if (mayLack(n.parts.get(0))) first(n.parts.get(1), into);
        } else {
            for (Node part : n.parts) first(part, into);
        }
    }

    /** Climbs from the place to its row's top: what comes next on the way; true if the top is reached. */
    private static boolean climb(Node leaf, Set<Integer> next) {
        Node below = leaf;
        for (Node n = leaf.over; n != null; n = n.over) {
            if (n.sign == '*' || n.sign == '+') first(below, next);
            if (n.sign == '&' && n.parts.get(0) == below) {
                first(n.parts.get(1), next);
                if (!mayLack(n.parts.get(1))) return false;
            }
            below = n;
        }
        return true;
    }

    private int ruleOf(int p) {
        for (int r = 0; r < rules.size(); r++) {
            if (rules.get(r).leaves.contains(places.get(p))) return r;
        }
        throw new IllegalStateException();
    }

    private boolean isWhole(int p) {
        return climb(places.get(p), new TreeSet<>());
    }

    private Set<Integer> behind(int p) {
        Set<Integer> next = new TreeSet<>();
        climb(places.get(p), next);
        return next;
    }

    private boolean takes(int p, int x) {
        return places.get(p).sign == '.' || places.get(p).sign == '0' + x;
    }

    private static int bits(Set<Integer> set) {
        int b = 0;
        for (int i : set) b |= 1 << i;
        return b;
    }

    int rule(int r, int what) {
        if (r < 0 || r >= rules.size() || what < 0 || what > 3) return BAD;
        if (what == 0) return now.kinds[r];
        Set<Integer> set = new TreeSet<>();
        if (what == 2) first(rules.get(r).root, set);
        for (int p = 0; p < places.size(); p++) {
            if (ruleOf(p) == r && (what == 1 || what == 3 && isWhole(p))) set.add(p);
        }
        return bits(set);
    }

    int place(int p, int what) {
        if (p < 0 || p >= places.size() || what < 0 || what > 1) return BAD;
        if (what == 1) return bits(behind(p));
        return places.get(p).sign == '.' ? 6 : places.get(p).sign - '0';
    }

    int kind(int letter) {
        return letter < 0 || letter > 25 ? BAD : now.classes[letter];
    }

    int letter(int at) {
        if (at < 0 || at > now.line.size()) return BAD;
        return at == now.line.size() ? NONE : now.line.get(at);
    }

    // ---- acts

    private void aboutToAct() {
        before.push(now.copy());
        if (before.size() > 8) before.removeLast();
    }

    int insert(int at, int letter) {
        if (at < 0 || at > now.line.size() || letter < 0 || letter > 25) return BAD;
        if (now.line.size() == 30) return FULL;
        aboutToAct();
        now.line.add(at, letter);
        return now.line.size();
    }

    int erase(int at) {
        if (at < 0 || at >= now.line.size()) return BAD;
        aboutToAct();
        return now.line.remove(at);
    }

    int tell(int letter, int kind) {
        if (letter < 0 || letter > 25 || kind < 0 || kind > 5) return BAD;
        int was = now.classes[letter];
        if (was == kind) return NO;
        aboutToAct();
        now.classes[letter] = kind;
        return was;
    }

    int rename(int r, int kind) {
        if (r < 0 || r >= rules.size() || kind < 0 || kind > 3) return BAD;
        int was = now.kinds[r];
        if (was == kind) return NO;
        aboutToAct();
        now.kinds[r] = kind;
        return was;
    }

    int undo() {
        if (before.isEmpty()) return NO;
        now = before.pop();
        return before.size();
    }

    // ---- pieces

    private Set<Integer> begun(int x, int without) {
        Set<Integer> all = new TreeSet<>(), set = new TreeSet<>();
        for (int r = 0; r < rules.size(); r++) {
            if (r != without) first(rules.get(r).root, all);
        }
        for (int p : all) if (takes(p, x)) set.add(p);
        return set;
    }

    private Set<Integer> goOn(Set<Integer> stand, int x) {
        Set<Integer> set = new TreeSet<>();
        for (int p : stand) {
            int kind = now.kinds[ruleOf(p)];
            boolean isShort = kind == 2 || kind == 3, isLoose = kind == 1 || kind == 3;
            if (!(isShort && isWhole(p))) {
                for (int q : behind(p)) if (takes(q, x)) set.add(q);
            }
            if (isLoose && x == 5) set.add(p);
        }
        return set;
    }

    private Set<Integer> after(Set<Integer> stand, int x) {
        Set<Integer> next = goOn(stand, x);
        return next.isEmpty() ? begun(x, -1) : next;
    }

    /** The stands behind each letter; at each place at which a piece ends, that is put down. */
    private List<Set<Integer>> walk(State s, int without, Set<Integer> bounds) {
        List<Set<Integer>> stands = new ArrayList<>();
        Set<Integer> stand = new TreeSet<>();
        bounds.add(0);
        for (int at = 0; at < s.line.size(); at++) {
            stand = goOn(stand, s.classAt(at));
            if (stand.isEmpty()) {
                bounds.add(at);
                stand = begun(s.classAt(at), without);
            }
            stands.add(stand);
        }
        bounds.add(s.line.size());
        return stands;
    }

    private TreeSet<Integer> bounds(State s, int without) {
        TreeSet<Integer> bounds = new TreeSet<>();
        walk(s, without, bounds);
        return bounds;
    }

    int isBoundary(int at) {
        if (at < 0 || at > now.line.size()) return BAD;
        return bounds(now, -1).contains(at) ? 1 : 0;
    }

    int boundary(int at, int way) {
        if (at < 0 || at > now.line.size() || way < 0 || way > 1) return BAD;
        Integer to = way == 0 ? bounds(now, -1).higher(at) : bounds(now, -1).lower(at);
        return to == null ? NONE : to;
    }

    int stand(int at) {
        if (at < 0 || at > now.line.size()) return BAD;
        return at == 0 ? NONE : bits(walk(now, -1, new TreeSet<>()).get(at - 1));
    }

    int piece(int i, int what) {
        List<Integer> bounds = new ArrayList<>(bounds(now, -1));
        if (i < 0 || i >= bounds.size() - 1 || what < 0 || what > 3) return BAD;
        if (what == 0) return bounds.get(i);
        if (what == 1) return bounds.get(i + 1) - bounds.get(i);
        Set<Integer> set = new TreeSet<>();
        for (int p : walk(now, -1, new TreeSet<>()).get(bounds.get(i + 1) - 1)) {
            if (what == 3 || isWhole(p)) set.add(ruleOf(p));
        }
        return bits(set);
    }

    // ---- how things may stand

    private List<Set<Integer>> ways() {
        Set<Set<Integer>> seen = new HashSet<>();
        Deque<Set<Integer>> open = new ArrayDeque<>();
        for (int x = 0; x < 6; x++) open.add(begun(x, -1));
        while (!open.isEmpty()) {
            Set<Integer> stand = open.pop();
            if (!seen.add(stand)) continue;
            for (int x = 0; x < 6; x++) {
                Set<Integer> next = goOn(stand, x);
                if (!next.isEmpty()) open.add(next);
            }
        }
        return new ArrayList<>(seen);
    }

    /** Marks every two ways that some row of classes tells apart, then counts those unlike all ahead of them. */
    private int unlike() {
        List<Set<Integer>> ways = ways();
        int n = ways.size();
        int[][] to = new int[n][6];
        for (int i = 0; i < n; i++) {
            for (int x = 0; x < 6; x++) to[i][x] = ways.indexOf(goOn(ways.get(i), x));
            for (int x = 0; x < 6; x++) if (goOn(ways.get(i), x).isEmpty()) to[i][x] = -1;
        }
        boolean[][] apart = new boolean[n][n];
        for (boolean more = true; more; ) {
            more = false;
            for (int i = 0; i < n; i++) {
                for (int j = 0; j < n; j++) {
                    for (int x = 0; x < 6 && !apart[i][j]; x++) {
                        int a = to[i][x], b = to[j][x];
                        boolean differ = a < 0 || b < 0 ? (a < 0) != (b < 0) : apart[a][b];
                        if (differ) {
                            apart[i][j] = true;
                            more = true;
                        }
                    }
                }
            }
        }
        int unlike = 0;
        for (int i = 0; i < n; i++) {
            boolean isNew = true;
            for (int j = 0; j < i; j++) isNew &= apart[i][j];
            if (isNew) unlike++;
        }
        return unlike;
    }

    private boolean isKnown(int x, int y, List<Set<Integer>> ways) {
        Set<Integer> due = after(begun(x, -1), y);
        for (Set<Integer> way : ways) if (!after(after(way, x), y).equals(due)) return false;
        return true;
    }

    private int backFrom(int at, List<Set<Integer>> ways) {
        int to = at;
        while (to > 0 && (to == 1 || !isKnown(now.classAt(to - 2), now.classAt(to - 1), ways))) to--;
        return to;
    }

    int machine(int what) {
        if (what < 0 || what > 4) return BAD;
        List<Set<Integer>> ways = ways();
        if (what == 0) return ways.size();
        if (what == 1) return unlike();
        int n = 0;
        if (what == 2) {
            for (int x = 0; x < 6; x++) for (int y = 0; y < 6; y++) if (isKnown(x, y, ways)) n++;
            return n;
        }
        if (what == 3) {
            Set<List<Integer>> fours = new HashSet<>();
            int[] all = Arrays.copyOf(now.classes, 28);
            for (int i = 0; i < 28; i += 4) fours.add(List.of(all[i], all[i + 1], all[i + 2], all[i + 3]));
            return fours.size();
        }
        for (int at = 0; at <= now.line.size(); at++) n = Math.max(n, at - backFrom(at, ways));
        return n;
    }

    int alike(int x, int y) {
        if (x < 0 || x > 5 || y < 0 || y > 5) return BAD;
        if (!begun(x, -1).equals(begun(y, -1))) return 0;
        for (Set<Integer> way : ways()) if (!goOn(way, x).equals(goOn(way, y))) return 0;
        return 1;
    }

    int known(int x, int y) {
        if (x < 0 || x > 5 || y < 0 || y > 5) return BAD;
        return isKnown(x, y, ways()) ? 1 : 0;
    }

    int back(int at, int what) {
        if (at < 0 || at > now.line.size() || what < 0 || what > 1) return BAD;
        int to = backFrom(at, ways());
        return what == 0 ? to : at - to;
    }

    int idle() {
        Set<Integer> set = new TreeSet<>();
        for (int r = 0; r < rules.size(); r++) if (bounds(now, r).equals(bounds(now, -1))) set.add(r);
        return bits(set);
    }

    int least(int r) {
        if (r < 0 || r >= rules.size()) return BAD;
        Set<Set<Integer>> stands = new HashSet<>();
        for (int x = 0; x < 6; x++) stands.add(begun(x, -1));
        for (int letters = 1; letters <= 8; letters++) {
            Set<Set<Integer>> nexts = new HashSet<>();
            for (Set<Integer> stand : stands) {
                for (int p : stand) if (ruleOf(p) == r && isWhole(p)) return letters;
                for (int x = 0; x < 6; x++) nexts.add(goOn(stand, x));
            }
            stands = nexts;
        }
        return NONE;
    }

    // ---- days

    int day(int z, int n, int what) {
        if (z < 0 || z > 9999 || n < 1 || n > 40 || what < 0 || what > 2) return BAD;
        State s = now.copy();
        for (int k = 0; k < n; k++) {
            long x = 7919L * z + 6151L * k + 1;
            int draw = (int) ((x * x) % 65521);
            int size = s.line.size();
            if (draw % 4 <= 1 && size < 30) s.line.add((draw / 256) % (size + 1), (draw / 8) % 26);
            if (draw % 4 == 2 && size > 0) s.line.remove((draw / 256) % size);
            if (draw % 4 == 3) s.classes[(draw / 8) % 26] = (draw / 256) % 6;
        }
        List<Integer> bounds = new ArrayList<>(bounds(s, -1));
        int longest = 0;
        for (int i = 1; i < bounds.size(); i++) longest = Math.max(longest, bounds.get(i) - bounds.get(i - 1));
        return what == 0 ? s.line.size() : what == 1 ? bounds.size() - 1 : longest;
    }

    int keep() {
        if (kept.size() == 2) return FULL;
        kept.push(now.copy());
        return kept.size();
    }

    int restore() {
        if (kept.isEmpty()) return NO;
        now = kept.pop();
        before.clear();
        return kept.size();
    }

    int count(int what) {
        switch (what) {
            case 0: return rules.size();
            case 1: return places.size();
            case 2: return now.line.size();
            case 3: return bounds(now, -1).size() - 1;
            case 4: return before.size();
            case 5: return kept.size();
            case 6: return text.length();
            default: return BAD;
        }
    }
}
