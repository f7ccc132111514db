import java.util.ArrayList;
import java.util.List;

/**
 * What the document's head says of the whole, part by part, on drawn texts: each part is held beside something else that
 * says the same (what rows let be, another line, another text), not beside numbers. Other draws by a number: seed.
 */
public final class HeadTest extends Due {
    private static final int TEXTS = 250;
    private static Draws draws;

    /** A text without fault, of a rule at least, by its items. */
    private static final class Drawn {
        final String text;
        final List<String> rows = new ArrayList<>();
        String classes = "", rules = "";

        Drawn(String text) {
            this.text = text;
            for (String item : text.split(";")) {
                if (item.startsWith("c")) classes += item + ";";
                if (item.startsWith("r")) {
                    rules += item + ";";
                    rows.add(item.substring(3));
                }
            }
        }

        BoundaryRules lay() {
            return laid(text);
        }

        /** The rules as the object has them, or all plain. */
        List<Rests> rests(BoundaryRules x, boolean plain) {
            List<Rests> rests = new ArrayList<>();
            for (int r = 0; r < rows.size(); r++) rests.add(new Rests(rows.get(r), plain ? 0 : x.rule(r, 0)));
            return rests;
        }

        String without(int rule) {
            StringBuilder without = new StringBuilder();
            int r = 0;
            for (String item : text.split(";")) {
                if (!item.startsWith("r") || r++ != rule) without.append(item).append(';');
            }
            return without.toString();
        }
    }

    /** So many texts, so short that other letters have room in them. */
    private static List<Drawn> texts(int number) {
        List<Drawn> texts = new ArrayList<>();
        for (int i = 0; i < number * 20 && texts.size() < number; i++) {
            String text = draws.text();
            BoundaryRules x = new BoundaryRules();
            if (text.length() <= 160 && put(x, text).lay() > 0) texts.add(new Drawn(text));
        }
        due("texts that can be laid", texts.size(), number);
        return texts;
    }

    private static void hasCome(String what, int times) {
        due("whether it has come that " + what, times > 0 ? 1 : 0, 1);
    }

    private static String letters(int number) {
        StringBuilder letters = new StringBuilder();
        for (int i = 0; i < number; i++) letters.append((char) ('a' + draws.draw(26)));
        return letters.toString();
    }

    // ---- pieces

    private static String pieces(BoundaryRules x) {
        StringBuilder pieces = new StringBuilder();
        for (int i = 0; i < x.count(3) && i < 30; i++) {
            for (int what = 0; what <= 3; what++) pieces.append(x.piece(i, what)).append(what < 3 ? " " : "; ");
        }
        return pieces.toString();
    }

    private static boolean allGoOn(List<Rests> rules, int x) {
        boolean any = false;
        for (Rests rule : rules) any |= rule.goOn(x);
        return any;
    }

    private static String pieceOf(int from, int to, List<Rests> rules) {
        int whole = 0, begun = 0;
        for (int r = 0; r < rules.size(); r++) {
            if (rules.get(r).isWhole()) whole |= 1 << r;
            if (rules.get(r).isBegun()) begun |= 1 << r;
        }
        return from + " " + (to - from) + " " + whole + " " + begun + "; ";
    }

    /** The line parted by what the rows let be, a letter at a time. */
    private static String piecesDue(BoundaryRules x, List<Rests> rules) {
        StringBuilder pieces = new StringBuilder();
        int from = 0;
        String last = "";
        for (int at = 0; at < x.count(2); at++) {
            int kind = x.kind(x.letter(at));
            if (at == 0 || !allGoOn(rules, kind)) {
                pieces.append(last);
                from = at;
                for (Rests rule : rules) rule.begin(kind);
            }
            last = pieceOf(from, at + 1, rules);
        }
        return pieces.append(last).toString();
    }

    private static void asLongAsItIsTheBeginning() {
        int longPieces = 0, wholePieces = 0;
        for (Drawn drawn : texts(TEXTS)) {
            BoundaryRules x = drawn.lay();
            for (int r = 0; r < x.count(0); r++) x.rename(r, 0);
            same("the pieces of " + drawn.text + ", all plain", pieces(x), piecesDue(x, drawn.rests(x, true)));
            for (int i = 0; i < x.count(3); i++) {
                if (x.piece(i, 1) > 2) longPieces++;
                if (x.piece(i, 2) > 0) wholePieces++;
            }
        }
        hasCome("pieces are long", longPieces);
        hasCome("pieces are whole", wholePieces);
    }

    private static void byTheKindsOfRules() {
        int[] seen = new int[4];
        for (Drawn drawn : texts(TEXTS)) {
            BoundaryRules x = drawn.lay();
            same("the pieces of " + drawn.text, pieces(x), piecesDue(x, drawn.rests(x, false)));
            for (int r = 0; r < x.count(0); r++) seen[x.rule(r, 0)]++;
        }
        for (int kind = 0; kind <= 3; kind++) hasCome("rules are of kind " + kind, seen[kind]);
    }

    private static void boundariesAheadAndBehind() {
        for (Drawn drawn : texts(TEXTS / 5)) {
            BoundaryRules x = drawn.lay();
            String bounds = bounds(x);
            int end = x.count(2), number = 0;
            for (int at = 0; at <= end; at++) {
                due("boundary(" + at + ", 0) of " + drawn.text, x.boundary(at, 0), at < end ? bounds.indexOf('1', at + 1) : NONE);
                due("boundary(" + at + ", 1) of " + drawn.text, x.boundary(at, 1), at > 0 ? bounds.lastIndexOf('1', at - 1) : NONE);
                if (at < end && bounds.charAt(at) == '1') due("piece(i, 0) of " + drawn.text, x.piece(number++, 0), at);
            }
            due("count(3) of " + drawn.text, x.count(3), number);
        }
    }

    // ---- whoever comes in the midst

    /** How a line stands at each place from one on, so that an object is not asked twice. */
    private static final class Standing {
        final String line, bounds;
        final String[] stands;

        Standing(BoundaryRules x) {
            line = line(x);
            bounds = bounds(x);
            stands = stands(x).split(" ");
        }
    }

    /** Another line whose letters from two ahead of the place on are the same. */
    private static void whateverIsAhead(Drawn drawn, Standing x, int to) {
        String behind = x.line.substring(to - 2);
        String ahead = letters(draws.draw(31 - behind.length()));
        Standing y = new Standing(laid(drawn.classes + drawn.rules + "s" + ahead + behind + ";"));
        int off = ahead.length() - (to - 2);
        String words = " of " + drawn.text + " with " + ahead + " ahead of " + behind;
        same("the boundaries" + words, y.bounds.substring(to + off), x.bounds.substring(to));
        for (int at = to; at <= x.line.length(); at++) {
            same("stand(" + (at + off) + ")" + words, y.stands[at + off - 1], x.stands[at - 1]);
        }
    }

    private static void fromAnywhere() {
        int pairs = 0;
        for (Drawn drawn : texts(TEXTS)) {
            BoundaryRules x = drawn.lay();
            Standing standing = new Standing(x);
            int farthest = 0, last = 0;
            for (int at = 0; at <= x.count(2); at++) {
                int to = x.back(at, 0);
                farthest = Math.max(farthest, x.back(at, 1));
                if (to == last) continue;
                last = to;
                pairs++;
                whateverIsAhead(drawn, standing, to);
            }
            due("machine(4) of " + drawn.text, x.machine(4), farthest);
        }
        hasCome("one goes back to a pair", pairs);
    }

    private static void classesThatMakeNoDifference() {
        int pairs = 0;
        for (Drawn drawn : texts(TEXTS)) {
            for (int a = 0; a <= 5; a++) {
                int b = draws.draw(6);
                BoundaryRules x = drawn.lay();
                String was = stands(x) + " " + bounds(x);
                if (a == b || x.alike(a, b) == 0) continue;
                pairs++;
                for (int letter = 0; letter < 26; letter++) if (x.kind(letter) == a) x.tell(letter, b);
                same("the stands of " + drawn.text + ", " + a + " told as " + b, stands(x) + " " + bounds(x), was);
            }
        }
        hasCome("classes are alike", pairs);
    }

    // ---- rules that are not needed, the shortest row

    private static void withoutARule() {
        int[] seen = new int[2];
        for (Drawn drawn : texts(TEXTS)) {
            BoundaryRules x = drawn.lay();
            int idle = x.idle();
            for (int r = 0; r < x.count(0) && x.count(0) > 1; r++) {
                int same = bounds(laid(drawn.without(r))).equals(bounds(x)) ? 1 : 0;
                due("whether idle() of " + drawn.text + " has " + r, idle >> r & 1, same);
                seen[same]++;
            }
        }
        hasCome("a rule is needed", seen[0]);
        hasCome("a rule is not needed", seen[1]);
    }

    private static void theShortestRow() {
        int most = 0;
        for (Drawn drawn : texts(TEXTS)) {
            BoundaryRules x = drawn.lay();
            for (int r = 0; r < drawn.rows.size(); r++) {
                int fewest = Rests.fewestLetters(drawn.rows.get(r));
                due("least(" + r + ") of " + drawn.text, x.least(r), fewest);
                most = Math.max(most, fewest);
            }
        }
        due("the most of these", most, 8);
    }

    // ---- a text, acts

    private static void theFirstFault() {
        int faults = 0;
        for (int i = 0; i < TEXTS * 4; i++) {
            String text = draws.text();
            if (text.length() > 200) continue;
            int fault = faultOf(text);
            if (fault < 0) continue;
            faults++;
            int end = text.indexOf(';', fault);
            due("fault() ahead of that of " + text, faultOf(text.substring(0, fault)), NONE);
            due("fault() to the item's end of " + text, faultOf(end < 0 ? text : text.substring(0, end + 1)), fault);
        }
        hasCome("there is a fault", faults);
    }

    private static void act(BoundaryRules x) {
        switch (draws.draw(5)) {
            case 0: x.insert(draws.draw(x.count(2) + 1), draws.draw(26)); break;
            case 1: x.erase(draws.draw(x.count(2) + 1)); break;
            case 2: x.tell(draws.draw(26), draws.draw(6)); break;
            case 3: x.rename(draws.draw(x.count(0)), draws.draw(4)); break;
            default: x.undo(); break;
        }
    }

    /** A text that tells how the object stands. */
    private static String toldAnew(BoundaryRules x, List<String> rows) {
        StringBuilder text = new StringBuilder();
        String kinds = kinds(x);
        for (int kind = 1; kind <= 5; kind++) {
            StringBuilder letters = new StringBuilder();
            for (int i = 0; i < 26; i++) if (kinds.charAt(i) == '0' + kind) letters.append(ALPHABET.charAt(i));
            if (letters.length() > 0) text.append('c').append(kind).append(',').append(letters).append(';');
        }
        for (int r = 0; r < rows.size(); r++) {
            text.append('r').append(x.rule(r, 0)).append(',').append(rows.get(r)).append(';');
        }
        return text.append('s').append(line(x)).append(';').toString();
    }

    private static String all(BoundaryRules x) {
        return stands(x) + ", " + bounds(x) + ", " + machines(x) + ", " + x.idle() + ", " + x.day(7, 40, 1);
    }

    private static void actsOrATextThatTellsTheSame() {
        for (Drawn drawn : texts(TEXTS)) {
            BoundaryRules x = drawn.lay();
            for (int i = 0; i < 40; i++) act(x);
            String anew = toldAnew(x, drawn.rows);
            same("what stands behind acts on " + drawn.text + ", and by " + anew, all(x), all(laid(anew)));
        }
    }

    public static void main(String[] args) {
        draws = new Draws(args.length > 0 ? Long.parseLong(args[0]) : 28);
        test("a piece goes on as long as it is the beginning of something", HeadTest::asLongAsItIsTheBeginning);
        test("rules by kind", HeadTest::byTheKindsOfRules);
        test("boundaries ahead of a place and behind it", HeadTest::boundariesAheadAndBehind);
        test("whoever comes in the midst, whatever was ahead", HeadTest::fromAnywhere);
        test("which classes make none", HeadTest::classesThatMakeNoDifference);
        test("which rules the line does not need", HeadTest::withoutARule);
        test("the shortest row of classes that is whole by one", HeadTest::theShortestRow);
        test("told in a text with the first fault", HeadTest::theFirstFault);
        test("letters put in, taken out, ..., undone", HeadTest::actsOrATextThatTellsTheSame);
        end("HeadTest");
    }
}
