import java.util.Arrays;

/** Rules that tell where a line of letters may be parted, and from how far back that can be found. */
public final class BoundaryRules {
    public static final int BAD = -1, NO = -2, FULL = -3, NONE = -4;

    private static final int LETTERS = 26;
    private static final int CLASSES = 6;
    /** The class by whose letters the places of a loose rule stay. */
    private static final int HOLDING = 5;
    /** What a place of no class of its own is said to take. */
    private static final int ANY = 6;
    private static final int KINDS = 4;
    /** The bits of a kind: BOTH is the two together. */
    private static final int LOOSE = 1, SHORT = 2;
    private static final int MOST_RULES = 4;
    private static final int MOST_PLACES = 10;
    private static final int MOST_SIGNS = 16;
    private static final int MOST_IN_LINE = 30;
    private static final int MOST_IN_TEXT = 200;
    private static final int MOST_ACTS = 8;
    private static final int MOST_KEPT = 2;
    private static final int MOST_LEAST = 8;
    private static final int STANDS = 1 << MOST_PLACES;
    private static final int BUCKETS = 2 * STANDS;
    private static final String AT_FIRST =
        "c1,aeiou;c2,bcdfg;c3,xyz;c5,q;r0,&+2?1;r1,&1*|12;r2,&3&.3;r0,+3;sbaqbxyzaqqebcxqzz;";

    private final Text text = new Text();
    private final Rules rules = new Rules();
    private final Stock now = new Stock();
    private final Stock lowerKept = new Stock();
    private final Stock upperKept = new Stock();
    private final Acts acts = new Acts();
    private final Steps steps = new Steps();
    private final Pieces pieces = new Pieces();
    private final Ways ways = new Ways();
    /** What days and idle rules are tried on, so that nothing changes by them. */
    private final Stock triedStock = new Stock();
    private final Pieces triedPieces = new Pieces();
    private int keptNumber;

    public BoundaryRules() {
        for (int at = 0; at < AT_FIRST.length(); at++) {
            text.add(AT_FIRST.charAt(at));
        }
        layText();
        text.clear();
    }

    // ---- rules, lines

    public int write(int letter) {
        if (letter < 32 || letter > 126) {
            return BAD;
        }
        if (text.length() >= MOST_IN_TEXT) {
            return FULL;
        }
        text.add(letter);
        return text.length();
    }

    public int wipe() {
        int was = text.length();
        text.clear();
        return was;
    }

    public int fault() {
        return text.firstFault();
    }

    public int lay() {
        if (text.firstFault() != NONE || text.rulesSeen() == 0) {
            return NO;
        }
        layText();
        return rules.number();
    }

    public int rule(int r, int what) {
        if (!isRule(r) || what < 0 || what > 3) {
            return BAD;
        }
        switch (what) {
            case 0:
                return now.kindOf(r);
            case 1:
                return rules.placesOf(r);
            case 2:
                return rules.firstOf(r);
            default:
                return rules.wholeOf(r);
        }
    }

    public int place(int p, int what) {
        if (p < 0 || p >= rules.placeNumber() || what < 0 || what > 1) {
            return BAD;
        }
        return what == 0 ? rules.takenAt(p) : rules.behind(p);
    }

    public int kind(int letter) {
        return isLetter(letter) ? now.classOf(letter) : BAD;
    }

    public int letter(int at) {
        if (!isPlaceOfLine(at)) {
            return BAD;
        }
        return at == now.length() ? NONE : now.letterAt(at);
    }

    // ---- acts

    public int insert(int at, int letter) {
        if (!isPlaceOfLine(at) || !isLetter(letter)) {
            return BAD;
        }
        if (now.length() >= MOST_IN_LINE) {
            return FULL;
        }
        now.putIn(at, letter);
        acts.note(Acts.PUT_IN, at, letter);
        lineHasChanged();
        return now.length();
    }

    public int erase(int at) {
        if (at < 0 || at >= now.length()) {
            return BAD;
        }
        int was = now.letterAt(at);
        now.takeOut(at);
        acts.note(Acts.TAKEN_OUT, at, was);
        lineHasChanged();
        return was;
    }

    public int tell(int letter, int kind) {
        if (!isLetter(letter) || !isClass(kind)) {
            return BAD;
        }
        int was = now.classOf(letter);
        if (was == kind) {
            return NO;
        }
        now.setClass(letter, kind);
        acts.note(Acts.TOLD, letter, was);
        lineHasChanged();
        return was;
    }

    public int rename(int r, int kind) {
        if (!isRule(r) || kind < 0 || kind >= KINDS) {
            return BAD;
        }
        int was = now.kindOf(r);
        if (was == kind) {
            return NO;
        }
        now.setKind(r, kind);
        acts.note(Acts.RENAMED, r, was);
        rulesHaveChanged();
        return was;
    }

    public int undo() {
        if (acts.number() == 0) {
            return NO;
        }
        if (acts.takeBackFrom(now)) {
            rulesHaveChanged();
        } else {
            lineHasChanged();
        }
        return acts.number();
    }

    // ---- pieces

    public int isBoundary(int at) {
        if (!isPlaceOfLine(at)) {
            return BAD;
        }
        return pieces.hasBound(at) ? 1 : 0;
    }

    public int boundary(int at, int way) {
        if (!isPlaceOfLine(at) || way < 0 || way > 1) {
            return BAD;
        }
        return way == 0 ? pieces.boundBehind(at) : pieces.boundAhead(at);
    }

    public int stand(int at) {
        if (!isPlaceOfLine(at)) {
            return BAD;
        }
        return at == 0 ? NONE : pieces.standAt(at);
    }

    public int piece(int i, int what) {
        if (i < 0 || i >= pieces.number() || what < 0 || what > 3) {
            return BAD;
        }
        int from = pieces.beginning(i);
        int to = pieces.boundBehind(from);
        switch (what) {
            case 0:
                return from;
            case 1:
                return to - from;
            case 2:
                return rules.wholeIn(pieces.standAt(to));
            default:
                return rules.withPlaceIn(pieces.standAt(to));
        }
    }

    // ---- how things may stand

    public int machine(int what) {
        if (what < 0 || what > 4) {
            return BAD;
        }
        ways.find(steps);
        switch (what) {
            case 0:
                return ways.number();
            case 1:
                return ways.unlikeNumber();
            case 2:
                return ways.knownNumber();
            case 3:
                return now.unlikeFours();
            default:
                return farthestBack();
        }
    }

    public int alike(int x, int y) {
        if (!isClass(x) || !isClass(y)) {
            return BAD;
        }
        ways.find(steps);
        return ways.areAlike(x, y) ? 1 : 0;
    }

    public int known(int x, int y) {
        if (!isClass(x) || !isClass(y)) {
            return BAD;
        }
        ways.find(steps);
        return ways.isKnown(x, y) ? 1 : 0;
    }

    public int back(int at, int what) {
        if (!isPlaceOfLine(at) || what < 0 || what > 1) {
            return BAD;
        }
        ways.find(steps);
        int to = backFrom(at);
        return what == 0 ? to : at - to;
    }

    public int idle() {
        int bits = 0;
        for (int r = 0; r < rules.number(); r++) {
            triedPieces.read(now, steps, rules.placesOf(r));
            if (triedPieces.bounds() == pieces.bounds()) {
                bits |= 1 << r;
            }
        }
        return bits;
    }

    public int least(int r) {
        if (!isRule(r)) {
            return BAD;
        }
        ways.find(steps);
        int fewest = ways.fewestLettersTo(rules.wholeOf(r));
        return fewest < 1 || fewest > MOST_LEAST ? NONE : fewest;
    }

    // ---- days

    public int day(int z, int n, int what) {
        if (z < 0 || z > 9999 || n < 1 || n > 40 || what < 0 || what > 2) {
            return BAD;
        }
        triedStock.become(now);
        for (int k = 0; k < n; k++) {
            triedStock.goOnBy(draw(z, k));
        }
        triedPieces.read(triedStock, steps, 0);
        switch (what) {
            case 0:
                return triedStock.length();
            case 1:
                return triedPieces.number();
            default:
                return triedPieces.longest();
        }
    }

    public int keep() {
        if (keptNumber >= MOST_KEPT) {
            return FULL;
        }
        keptAt(keptNumber).become(now);
        keptNumber++;
        return keptNumber;
    }

    public int restore() {
        if (keptNumber == 0) {
            return NO;
        }
        keptNumber--;
        now.become(keptAt(keptNumber));
        acts.forget();
        rulesHaveChanged();
        return keptNumber;
    }

    public int count(int what) {
        switch (what) {
            case 0:
                return rules.number();
            case 1:
                return rules.placeNumber();
            case 2:
                return now.length();
            case 3:
                return pieces.number();
            case 4:
                return acts.number();
            case 5:
                return keptNumber;
            case 6:
                return text.length();
            default:
                return BAD;
        }
    }

    // ---- what the calls share

    private boolean isRule(int r) {
        return r >= 0 && r < rules.number();
    }

    private boolean isPlaceOfLine(int at) {
        return at >= 0 && at <= now.length();
    }

    private static boolean isLetter(int letter) {
        return letter >= 0 && letter < LETTERS;
    }

    private static boolean isClass(int x) {
        return x >= 0 && x < CLASSES;
    }

    private static int draw(int z, int k) {
        long x = 7919L * z + 6151L * k + 1;
        return (int) (x * x % 65521);
    }

    private Stock keptAt(int i) {
        return i == 0 ? lowerKept : upperKept;
    }

    /** Only for a text without fault. */
    private void layText() {
        rules.clear();
        now.clear();
        int from = 0;
        for (int item = 0; item < MOST_IN_TEXT && from < text.length(); item++) {
            from = text.tellItem(from, rules, now);
        }
        acts.forget();
        keptNumber = 0;
        rulesHaveChanged();
    }

    private void rulesHaveChanged() {
        steps.make(rules, now);
        ways.forget();
        lineHasChanged();
    }

    private void lineHasChanged() {
        pieces.read(now, steps, 0);
    }

    private int backFrom(int at) {
        for (int to = at; to >= 2; to--) {
            if (ways.isKnown(now.classAt(to - 2), now.classAt(to - 1))) {
                return to;
            }
        }
        return 0;
    }

    private int farthestBack() {
        int farthest = 0;
        for (int at = 0; at <= now.length(); at++) {
            farthest = Math.max(farthest, at - backFrom(at));
        }
        return farthest;
    }

    /** The text, and what its items are and tell. */
    private static final class Text {
        private final int[] signs = new int[MOST_IN_TEXT];
        private int length;
        private int rulesSeen;
        private int placesSeen;

        int length() {
            return length;
        }

        /** As many as firstFault() has come past. */
        int rulesSeen() {
            return rulesSeen;
        }

        void add(int sign) {
            if (length < MOST_IN_TEXT) {
                signs[length] = sign;
                length++;
            }
        }

        void clear() {
            length = 0;
        }

        int firstFault() {
            rulesSeen = 0;
            placesSeen = 0;
            int from = 0;
            for (int item = 0; item < MOST_IN_TEXT && from < length; item++) {
                int end = endOfItem(from);
                if (end < 0 || !isItem(from, end)) {
                    return from;
                }
                from = end + 1;
            }
            return NONE;
        }

        /** Only for a text without fault: where the next item begins. */
        int tellItem(int from, Rules rules, Stock stock) {
            int end = endOfItem(from);
            if (end < 0) {
                return length;
            }
            switch (signAt(from)) {
                case 'c':
                    for (int at = from + 3; at < end; at++) {
                        stock.setClass(signAt(at) - 'a', signAt(from + 1) - '0');
                    }
                    break;
                case 'r':
                    stock.setKind(rules.number(), signAt(from + 1) - '0');
                    rules.add(this, from + 3, end);
                    break;
                default:
                    stock.clearLine();
                    for (int at = from + 1; at < end; at++) {
                        stock.putIn(stock.length(), signAt(at) - 'a');
                    }
                    break;
            }
            return end + 1;
        }

        /** 0 where there is none, which is no sign of a text. */
        int signAt(int at) {
            return at >= 0 && at < length ? signs[at] : 0;
        }

        private int endOfItem(int from) {
            for (int at = from; at < length; at++) {
                if (signAt(at) == ';') {
                    return at;
                }
            }
            return -1;
        }

        private boolean isItem(int from, int end) {
            switch (signAt(from)) {
                case 'c':
                    return hasFigure(from, end, CLASSES) && areLetters(from + 3, end, 1, LETTERS);
                case 'r':
                    return hasFigure(from, end, KINDS) && isNextRule(from + 3, end);
                case 's':
                    return areLetters(from + 1, end, 0, MOST_IN_LINE);
                default:
                    return false;
            }
        }

        private boolean hasFigure(int from, int end, int below) {
            int figure = signAt(from + 1) - '0';
            return from + 2 < end && figure >= 0 && figure < below && signAt(from + 2) == ',';
        }

        private boolean areLetters(int from, int end, int fewest, int most) {
            for (int at = from; at < end; at++) {
                if (!isLetter(signAt(at) - 'a')) {
                    return false;
                }
            }
            return end - from >= fewest && end - from <= most;
        }

        private boolean isNextRule(int from, int end) {
            if (!isRow(from, end) || rulesSeen >= MOST_RULES) {
                return false;
            }
            int places = placesIn(from, end);
            if (placesSeen + places > MOST_PLACES) {
                return false;
            }
            rulesSeen++;
            placesSeen += places;
            return true;
        }

        private boolean isRow(int from, int end) {
            int due = 1;
            for (int at = from; at < end; at++) {
                int parts = partsOf(signAt(at));
                if (parts < 0 || due == 0) {
                    return false;
                }
                due += parts - 1;
            }
            return due == 0 && end - from <= MOST_SIGNS;
        }

        int placesIn(int from, int end) {
            int places = 0;
            for (int at = from; at < end; at++) {
                if (partsOf(signAt(at)) == 0) {
                    places++;
                }
            }
            return places;
        }

        private static int partsOf(int sign) {
            switch (sign) {
                case '&':
                case '|':
                    return 2;
                case '*':
                case '+':
                case '?':
                    return 1;
                case '.':
                    return 0;
                default:
                    return isClass(sign - '0') ? 0 : -1;
            }
        }
    }

    /** The rules as their rows tell, whatever their kinds are. */
    private static final class Rules {
        private final int[] places = new int[MOST_RULES];
        private final int[] firsts = new int[MOST_RULES];
        private final int[] wholes = new int[MOST_RULES];
        private final int[] taken = new int[MOST_PLACES];
        private final int[] behinds = new int[MOST_PLACES];
        private final Parts parts = new Parts();
        private int number;
        private int placeNumber;

        int number() {
            return number;
        }

        int placeNumber() {
            return placeNumber;
        }

        int placesOf(int r) {
            return has(r) ? places[r] : 0;
        }

        int firstOf(int r) {
            return has(r) ? firsts[r] : 0;
        }

        int wholeOf(int r) {
            return has(r) ? wholes[r] : 0;
        }

        int takenAt(int p) {
            return hasPlace(p) ? taken[p] : ANY;
        }

        int behind(int p) {
            return hasPlace(p) ? behinds[p] : 0;
        }

        private boolean has(int r) {
            return r >= 0 && r < number;
        }

        private boolean hasPlace(int p) {
            return p >= 0 && p < placeNumber;
        }

        void clear() {
            number = 0;
            placeNumber = 0;
        }

        /** Reads the row from its last sign on, so that a sign comes when its parts stand there. */
        void add(Text text, int from, int end) {
            int newPlaces = text.placesIn(from, end);
            if (number >= MOST_RULES || placeNumber + newPlaces > MOST_PLACES) {
                return;
            }
            parts.clear();
            int p = placeNumber + newPlaces;
            for (int at = end - 1; at >= from; at--) {
                int sign = text.signAt(at);
                if (sign == '.' || isClass(sign - '0')) {
                    p--;
                    addPlace(p, sign == '.' ? ANY : sign - '0');
                } else {
                    join(sign);
                }
            }
            places[number] = (1 << placeNumber + newPlaces) - (1 << placeNumber);
            firsts[number] = parts.first();
            wholes[number] = parts.last();
            number++;
            placeNumber += newPlaces;
        }

        private void addPlace(int p, int takes) {
            if (p >= 0 && p < MOST_PLACES) {
                taken[p] = takes;
                behinds[p] = 0;
                parts.push(1 << p, 1 << p, false);
            }
        }

        private void join(int sign) {
            int first = parts.first();
            int last = parts.last();
            boolean mayLack = parts.mayLack();
            parts.pop();
            switch (sign) {
                case '&':
                    joinNext(first, last, mayLack);
                    break;
                case '|':
                    joinOther(first, last, mayLack);
                    break;
                case '?':
                    parts.push(first, last, true);
                    break;
                default:
                    goOn(last, first);
                    parts.push(first, last, mayLack || sign == '*');
                    break;
            }
        }

        private void joinNext(int first, int last, boolean mayLack) {
            int nextFirst = parts.first();
            int nextLast = parts.last();
            boolean nextMayLack = parts.mayLack();
            parts.pop();
            goOn(last, nextFirst);
            parts.push(mayLack ? first | nextFirst : first,
                nextMayLack ? last | nextLast : nextLast, mayLack && nextMayLack);
        }

        private void joinOther(int first, int last, boolean mayLack) {
            int otherFirst = parts.first();
            int otherLast = parts.last();
            boolean otherMayLack = parts.mayLack();
            parts.pop();
            parts.push(first | otherFirst, last | otherLast, mayLack || otherMayLack);
        }

        private void goOn(int from, int to) {
            for (int p = 0; p < MOST_PLACES; p++) {
                if ((from >> p & 1) != 0) {
                    behinds[p] |= to;
                }
            }
        }

        int wholeIn(int stand) {
            int bits = 0;
            for (int r = 0; r < number; r++) {
                if ((wholes[r] & stand) != 0) {
                    bits |= 1 << r;
                }
            }
            return bits;
        }

        int withPlaceIn(int stand) {
            int bits = 0;
            for (int r = 0; r < number; r++) {
                if ((places[r] & stand) != 0) {
                    bits |= 1 << r;
                }
            }
            return bits;
        }
    }

    /** A pile of the parts of a row read so far: where each begins and ends, and if it may lack. */
    private static final class Parts {
        private final int[] firsts = new int[MOST_SIGNS];
        private final int[] lasts = new int[MOST_SIGNS];
        private final boolean[] lacking = new boolean[MOST_SIGNS];
        private int height;

        void clear() {
            height = 0;
        }

        void push(int first, int last, boolean mayLack) {
            if (height < MOST_SIGNS) {
                firsts[height] = first;
                lasts[height] = last;
                lacking[height] = mayLack;
                height++;
            }
        }

        void pop() {
            if (height > 0) {
                height--;
            }
        }

        int first() {
            return height > 0 ? firsts[height - 1] : 0;
        }

        int last() {
            return height > 0 ? lasts[height - 1] : 0;
        }

        boolean mayLack() {
            return height > 0 && lacking[height - 1];
        }
    }

    /** What acts change and what is kept: the classes of letters, the kinds of rules, the line. */
    private static final class Stock {
        private final int[] classes = new int[LETTERS];
        private final int[] kinds = new int[MOST_RULES];
        private final int[] line = new int[MOST_IN_LINE];
        private int length;

        int length() {
            return length;
        }

        int classOf(int letter) {
            return isLetter(letter) ? classes[letter] : 0;
        }

        int kindOf(int r) {
            return r >= 0 && r < MOST_RULES ? kinds[r] : 0;
        }

        int letterAt(int at) {
            return at >= 0 && at < length ? line[at] : 0;
        }

        int classAt(int at) {
            return classOf(letterAt(at));
        }

        void setClass(int letter, int x) {
            if (isLetter(letter)) {
                classes[letter] = x;
            }
        }

        void setKind(int r, int kind) {
            if (r >= 0 && r < MOST_RULES) {
                kinds[r] = kind;
            }
        }

        void clear() {
            Arrays.fill(classes, 0);
            Arrays.fill(kinds, 0);
            length = 0;
        }

        void clearLine() {
            length = 0;
        }

        void become(Stock other) {
            System.arraycopy(other.classes, 0, classes, 0, LETTERS);
            System.arraycopy(other.kinds, 0, kinds, 0, MOST_RULES);
            System.arraycopy(other.line, 0, line, 0, MOST_IN_LINE);
            length = other.length;
        }

        void putIn(int at, int letter) {
            if (at < 0 || at > length || length >= MOST_IN_LINE) {
                return;
            }
            for (int to = length; to > at; to--) {
                line[to] = line[to - 1];
            }
            line[at] = letter;
            length++;
        }

        void takeOut(int at) {
            if (at < 0 || at >= length) {
                return;
            }
            length--;
            for (int to = at; to < length; to++) {
                line[to] = line[to + 1];
            }
        }

        void goOnBy(int draw) {
            int drawn = draw / 8 % LETTERS;
            int where = draw / 256;
            switch (draw % 4) {
                case 2:
                    if (length > 0) {
                        takeOut(where % length);
                    }
                    break;
                case 3:
                    setClass(drawn, where % CLASSES);
                    break;
                default:
                    putIn(where % (length + 1), drawn);
                    break;
            }
        }

        int unlikeFours() {
            int unlike = 0;
            for (int i = 0; i < LETTERS; i += 4) {
                boolean isNew = true;
                for (int j = 0; j < i; j += 4) {
                    isNew &= fourFrom(i) != fourFrom(j);
                }
                unlike += isNew ? 1 : 0;
            }
            return unlike;
        }

        private int fourFrom(int letter) {
            int four = 0;
            for (int i = letter; i < letter + 4; i++) {
                four = four * CLASSES + (i < LETTERS ? classes[i] : 0);
            }
            return four;
        }
    }

    /** The acts that can be undone, the latest last. */
    private static final class Acts {
        static final int PUT_IN = 0, TAKEN_OUT = 1, TOLD = 2, RENAMED = 3;

        private final int[] acts = new int[MOST_ACTS];
        private final int[] wheres = new int[MOST_ACTS];
        private final int[] befores = new int[MOST_ACTS];
        private int number;

        int number() {
            return number;
        }

        void forget() {
            number = 0;
        }

        void note(int act, int where, int before) {
            if (number >= MOST_ACTS) {
                dropOldest();
            }
            acts[number] = act;
            wheres[number] = where;
            befores[number] = before;
            number++;
        }

        private void dropOldest() {
            number = MOST_ACTS - 1;
            System.arraycopy(acts, 1, acts, 0, number);
            System.arraycopy(wheres, 1, wheres, 0, number);
            System.arraycopy(befores, 1, befores, 0, number);
        }

        /** Whether a rule has changed by it. */
        boolean takeBackFrom(Stock stock) {
            if (number <= 0) {
                return false;
            }
            number--;
            int where = wheres[number];
            int before = befores[number];
            switch (acts[number]) {
                case PUT_IN:
                    stock.takeOut(where);
                    return false;
                case TAKEN_OUT:
                    stock.putIn(where, before);
                    return false;
                case TOLD:
                    stock.setClass(where, before);
                    return false;
                default:
                    stock.setKind(where, before);
                    return true;
            }
        }
    }

    /** How a stand is begun and goes on, the rules being of their kinds. */
    private static final class Steps {
        private final int[] onward = new int[MOST_PLACES];
        private final int[] takers = new int[CLASSES];
        private int firsts;
        private int loose;

        void make(Rules rules, Stock stock) {
            makeTakers(rules);
            Arrays.fill(onward, 0);
            firsts = 0;
            loose = 0;
            for (int r = 0; r < rules.number(); r++) {
                firsts |= rules.firstOf(r);
                if ((stock.kindOf(r) & LOOSE) != 0) {
                    loose |= rules.placesOf(r);
                }
                boolean isShort = (stock.kindOf(r) & SHORT) != 0;
                letGoOn(rules, isShort ? rules.placesOf(r) & ~rules.wholeOf(r) : rules.placesOf(r));
            }
        }

        private void makeTakers(Rules rules) {
            Arrays.fill(takers, 0);
            for (int p = 0; p < rules.placeNumber(); p++) {
                for (int x = 0; x < CLASSES; x++) {
                    if (rules.takenAt(p) == x || rules.takenAt(p) == ANY) {
                        takers[x] |= 1 << p;
                    }
                }
            }
        }

        private void letGoOn(Rules rules, int places) {
            for (int p = 0; p < MOST_PLACES; p++) {
                if ((places >> p & 1) != 0) {
                    onward[p] = rules.behind(p);
                }
            }
        }

        int begunBy(int x) {
            return isClass(x) ? firsts & takers[x] : 0;
        }

        /** 0 if the piece ends ahead of a letter of that class. */
        int goOn(int stand, int x) {
            if (!isClass(x)) {
                return 0;
            }
            int next = x == HOLDING ? stand & loose : 0;
            for (int p = 0; p < MOST_PLACES; p++) {
                if ((stand >> p & 1) != 0) {
                    next |= onward[p] & takers[x];
                }
            }
            return next;
        }
    }

    /** A line read from its beginning: its stands, and its boundaries as bits. */
    private static final class Pieces {
        private final int[] stands = new int[MOST_IN_LINE + 1];
        private int length;
        private int bounds;

        /** A rule's places out of all that are first are out of all that come behind, too. */
        void read(Stock stock, Steps steps, int placesLeftOut) {
            length = stock.length();
            bounds = 1 | 1 << length;
            int stand = 0;
            for (int at = 0; at < length; at++) {
                int x = stock.classAt(at);
                stand = steps.goOn(stand, x);
                if (stand == 0) {
                    bounds |= 1 << at;
                    stand = steps.begunBy(x) & ~placesLeftOut;
                }
                stands[at + 1] = stand;
            }
        }

        int bounds() {
            return bounds;
        }

        int number() {
            return Integer.bitCount(bounds) - 1;
        }

        boolean hasBound(int at) {
            return (bounds >> at & 1) != 0;
        }

        int standAt(int at) {
            return at >= 0 && at <= length ? stands[at] : 0;
        }

        int boundBehind(int at) {
            for (int to = at + 1; to <= length; to++) {
                if (hasBound(to)) {
                    return to;
                }
            }
            return NONE;
        }

        int boundAhead(int at) {
            for (int to = at - 1; to >= 0; to--) {
                if (hasBound(to)) {
                    return to;
                }
            }
            return NONE;
        }

        int beginning(int i) {
            int at = 0;
            for (int past = 0; past < i; past++) {
                at = boundBehind(at);
            }
            return at;
        }

        int longest() {
            int most = 0;
            int from = 0;
            for (int i = 0; i < number(); i++) {
                int to = boundBehind(from);
                most = Math.max(most, to - from);
                from = to;
            }
            return most;
        }
    }

    /** All ways to stand, each by its number, found when they are first asked for. */
    private static final class Ways {
        private static final int ENDS = -1;

        private final int[] stands = new int[STANDS];
        private final int[] fewest = new int[STANDS];
        private final int[] numberOf = new int[STANDS];
        private final int[] nexts = new int[STANDS * CLASSES];
        private final int[] begun = new int[CLASSES];
        private final boolean[] known = new boolean[CLASSES * CLASSES];
        private final Groups groups = new Groups();
        private int number;
        private int unlikeNumber;
        private int knownNumber;
        private boolean areFound;

        void forget() {
            areFound = false;
        }

        void find(Steps steps) {
            if (areFound) {
                return;
            }
            areFound = true;
            number = 0;
            Arrays.fill(numberOf, NONE);
            for (int x = 0; x < CLASSES; x++) {
                begun[x] = numberFor(steps.begunBy(x), 1);
            }
            for (int i = 0; i < number && i < STANDS; i++) {
                for (int x = 0; x < CLASSES; x++) {
                    int stand = steps.goOn(stands[i], x);
                    nexts[i * CLASSES + x] = stand == 0 ? ENDS : numberFor(stand, fewest[i] + 1);
                }
            }
            unlikeNumber = groups.part(nexts, number);
            findKnown();
        }

        /** Ways behind fewer letters are found first, so the letters of the first time are the fewest. */
        private int numberFor(int stand, int letters) {
            int at = stand & STANDS - 1;
            if (numberOf[at] == NONE && number < STANDS) {
                stands[number] = at;
                fewest[number] = letters;
                numberOf[at] = number;
                number++;
            }
            return numberOf[at];
        }

        private void findKnown() {
            knownNumber = 0;
            for (int x = 0; x < CLASSES; x++) {
                for (int y = 0; y < CLASSES; y++) {
                    known[x * CLASSES + y] = leadTogether(x, y);
                    knownNumber += known[x * CLASSES + y] ? 1 : 0;
                }
            }
        }

        private boolean leadTogether(int x, int y) {
            int fromBeginning = behind(begun[x], y);
            for (int i = 0; i < number; i++) {
                if (behind(behind(i, x), y) != fromBeginning) {
                    return false;
                }
            }
            return true;
        }

        /** The way to stand behind a letter, whether the piece goes on by it or another is begun. */
        private int behind(int i, int x) {
            int next = within(i, x);
            return next == ENDS ? begun[x] : next;
        }

        /** The way to stand behind a letter by which the piece goes on, or ENDS. */
        private int within(int i, int x) {
            return i >= 0 && i < number && isClass(x) ? nexts[i * CLASSES + x] : ENDS;
        }

        int number() {
            return number;
        }

        int unlikeNumber() {
            return unlikeNumber;
        }

        int knownNumber() {
            return knownNumber;
        }

        boolean isKnown(int x, int y) {
            return isClass(x) && isClass(y) && known[x * CLASSES + y];
        }

        boolean areAlike(int x, int y) {
            if (!isClass(x) || !isClass(y) || begun[x] != begun[y]) {
                return false;
            }
            for (int i = 0; i < number; i++) {
                if (within(i, x) != within(i, y)) {
                    return false;
                }
            }
            return true;
        }

        /** NONE where no way has one of the places. */
        int fewestLettersTo(int places) {
            for (int i = 0; i < number; i++) {
                if ((stands[i] & places) != 0) {
                    return fewest[i];
                }
            }
            return NONE;
        }
    }

    /** Ways parted into groups, finer each time, until no row of classes tells two of one group apart. */
    private static final class Groups {
        private static final int NO_WAY = -1;

        private final int[] groups = new int[STANDS];
        private final int[] finer = new int[STANDS];
        /** So that a way is not compared with every group: the first way of each, by a sum of what it does. */
        private final int[] buckets = new int[BUCKETS];
        private final int[] chains = new int[STANDS];

        /** How many groups there are in the end. */
        int part(int[] nexts, int ways) {
            Arrays.fill(groups, 0);
            int number = 1;
            for (int time = 0; time < STANDS; time++) {
                int before = number;
                number = partFiner(nexts, ways);
                if (number == before) {
                    break;
                }
            }
            return number;
        }

        private int partFiner(int[] nexts, int ways) {
            Arrays.fill(buckets, NO_WAY);
            int number = 0;
            for (int i = 0; i < ways && i < STANDS; i++) {
                int bucket = bucketOf(nexts, i);
                int like = firstLike(nexts, i, bucket);
                if (like == NO_WAY) {
                    finer[i] = number;
                    number++;
                    chains[i] = buckets[bucket];
                    buckets[bucket] = i;
                } else {
                    finer[i] = finer[like];
                }
            }
            System.arraycopy(finer, 0, groups, 0, STANDS);
            return number;
        }

        private int bucketOf(int[] nexts, int i) {
            int sum = 0;
            for (int x = 0; x < CLASSES; x++) {
                sum = sum * 31 + groupBehind(nexts, i, x) + 1;
            }
            return (sum ^ sum >>> 15) & BUCKETS - 1;
        }

        private int firstLike(int[] nexts, int i, int bucket) {
            int first = buckets[bucket];
            for (int past = 0; past < STANDS && first != NO_WAY; past++) {
                if (doTheSame(nexts, first, i)) {
                    return first;
                }
                first = chains[first];
            }
            return NO_WAY;
        }

        private boolean doTheSame(int[] nexts, int i, int j) {
            for (int x = 0; x < CLASSES; x++) {
                if (groupBehind(nexts, i, x) != groupBehind(nexts, j, x)) {
                    return false;
                }
            }
            return true;
        }

        private int groupBehind(int[] nexts, int i, int x) {
            int at = i * CLASSES + x;
            int next = at >= 0 && at < nexts.length ? nexts[at] : Ways.ENDS;
            return next >= 0 && next < STANDS ? groups[next] : Ways.ENDS;
        }
    }
}
