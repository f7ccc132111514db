import java.math.BigInteger;

/** Sentence by sentence what the document says of WAYS, BACK, IDLE, LEAST, DAYS and KEPT (promises 19 to 28), at its edges. */
public final class WaysEdgeTest extends Due {
    private static final int[] FAR_OFF = {LEAST_INT, -31, GREATEST_INT, GREATEST_INT - 1};
    private static final String CLASSES = "c1,a;c2,b;c3,c;c4,d;c5,q;";
    private static final String EIGHT_IN_A_ROW = "r0,&.&.&.&.&.&.&..;";

    /** All that machine() answers, what = 0 first. */
    private static void machinesDue(String text, String want) {
        same("machine() of " + text, machines(laid(text)), want);
    }

    private static void fours(String classes, int want) {
        due("machine(3) of " + classes, laid(classes + "r0,1;").machine(3), want);
    }

    private static String backs(BoundaryRules x, int what) {
        StringBuilder backs = new StringBuilder();
        for (int at = 0; at <= x.count(2) && at <= 30; at++) backs.append(at > 0 ? " " : "").append(x.back(at, what));
        return backs.toString();
    }

    // ---- ways

    private static void waysFromOne() {
        machinesDue("r0,+.;", "1 1 36 1 0");
        machinesDue("r0,1;", "2 1 36 1 0");
        machinesDue("r0,|.1;", "2 1 36 1 0");
        machinesDue("r0,*1;", "2 2 36 1 0");
        machinesDue(EIGHT_IN_A_ROW, "8 8 0 1 0");
        // with all ten: each begins at 0 and 8, goes on at 1 and 9, then at 2, ..
        machinesDue(EIGHT_IN_A_ROW + "r0,&..;", "8 8 0 1 0");
    }

    private static void aloneWhereOneComesToIt() {
        machinesDue("r0,|0|1|2|3|45;", "6 1 36 1 0");
        machinesDue("r0,|0|1|2|34;", "6 1 36 1 0");
        machinesDue("r0,|0|1|23;", "5 1 36 1 0");
        machinesDue("r0,&.1;", "2 2 35 1 0");
        machinesDue("r0,&11;", "3 2 35 1 0");
    }

    private static void waysByKinds() {
        BoundaryRules x = laid("r0,+1;");
        String[] wants = {"2 2 36 1 0", "2 2 35 1 0", "2 1 36 1 0", "2 2 35 1 0"};
        for (int kind : new int[] {1, 2, 3, 0}) {
            x.rename(0, kind);
            same("machine() of kind " + kind, machines(x), wants[kind]);
        }
        x.rename(0, 2);
        x.undo();
        same("machine() of one undone", machines(x), wants[0]);
    }

    private static void waysWhateverTheLetters() {
        BoundaryRules x = laid("r0,&11;");
        same("machine() of no class", machines(x), "3 2 35 1 0");
        x.tell(0, 1);
        x.insert(0, 0);
        x.insert(0, 0);
        same("machine() of some", machines(x), "3 2 35 2 2");
        x.tell(0, 2);
        same("machine() of others", machines(x), "3 2 35 2 1");
        x.undo();
        x.undo();
        same("machine() of undone", machines(x), "3 2 35 2 1");
    }

    private static void noSuchMachine() {
        BoundaryRules x = new BoundaryRules();
        same("machine()", machines(x), "12 6 16 7 17");
        due("machine(-1)", x.machine(-1), BAD);
        due("machine(5)", x.machine(5), BAD);
        for (int bad : FAR_OFF) due("machine(bad)", x.machine(bad), BAD);
    }

    private static void waysAlikeByEachRow() {
        // two rows of one length do the same from their second place on, unless one is longer
        machinesDue("r0,|&1.&2.;", "5 2 24 1 0");
        machinesDue("r0,|&1.&2&..;", "6 3 0 1 0");
        for (int x = 0; x <= 5; x++) {
            BoundaryRules y = laid("r0,&1" + x + ";");
            due("machine(0) where " + x + " goes on", y.machine(0), 3);
            due("machine(1) where " + x + " goes on", y.machine(1), 2);
        }
    }

    // ---- classes alike

    private static void classesAlikeAll() {
        BoundaryRules all = laid("r0,+.;"), none = laid("r0,|0|1|2|3|45;");
        for (int x = 0; x <= 5; x++) {
            for (int y = 0; y <= 5; y++) {
                due("alike(" + x + ", " + y + ") of all", all.alike(x, y), 1);
                due("alike(" + x + ", " + y + ") of none", none.alike(x, y), x == y ? 1 : 0);
            }
        }
    }

    private static void classesUnlikeByOneThing() {
        due("what is BEGUN", laid("r0,|12;").alike(1, 2), 0);
        due("what is BEGUN, or ALONE", laid("r0,|12;").alike(1, 3), 0);
        due("neither begins", laid("r0,|12;").alike(3, 0), 1);
        due("one goes on, one ends", laid("r0,&.1;").alike(1, 2), 0);
        due("both end", laid("r0,&.1;").alike(5, 0), 1);
        due("both go on, apart", laid("r0,&.|12;").alike(1, 2), 0);
        due("both go on together", laid("r0,&..;").alike(0, 5), 1);
        due("one stays", laid("r1,&.1;").alike(5, 0), 0);
        due("one stays, of a plain one", laid("r0,&.1;").alike(5, 0), 1);
        due("in a way that is far off", laid("r0,&.&.&.&.&.&.3;").alike(3, 4), 0);
    }

    private static void noSuchClassesAlike() {
        BoundaryRules x = laid("r0,+.;");
        for (int y = 0; y <= 5; y++) {
            for (int bad : new int[] {-1, 6, LEAST_INT, GREATEST_INT}) {
                due("alike(" + bad + ", " + y + ")", x.alike(bad, y), BAD);
                due("alike(" + y + ", " + bad + ")", x.alike(y, bad), BAD);
                due("alike(" + bad + ", " + bad + ")", x.alike(bad, bad), BAD);
            }
        }
    }

    // ---- pairs known

    private static void pairsKnownFromNoneTo36() {
        BoundaryRules all = laid("r0,1;"), none = laid("r0,&..;"), most = laid("r0,&.1;");
        for (int x = 0; x <= 5; x++) {
            for (int y = 0; y <= 5; y++) {
                due("known(" + x + ", " + y + ") of all", all.known(x, y), 1);
                due("known(" + x + ", " + y + ") of none", none.known(x, y), 0);
                due("known(" + x + ", " + y + ") of all but one", most.known(x, y), x == 1 && y == 1 ? 0 : 1);
            }
        }
    }

    private static void aPairOneNextToTheOther() {
        BoundaryRules x = laid("r0,&1&12;");
        due("known(1, 2)", x.known(1, 2), 0);
        due("known(2, 1)", x.known(2, 1), 1);
        due("known(1, 1)", x.known(1, 1), 0);
        due("known(2, 2)", x.known(2, 2), 1);
        due("machine(2)", x.machine(2), 34);
    }

    private static void aPairAtALinesBeginning() {
        // from each way one stands at 2 behind two letters, at a line's beginning at 1
        BoundaryRules x = laid("r0,&.&.+.;saaa;");
        same("machine()", machines(x), "3 1 0 1 3");
        due("known(0, 0)", x.known(0, 0), 0);
        due("known(5, 5)", x.known(5, 5), 0);
        same("the stands", stands(x), "1 2 4");
    }

    private static void noSuchPair() {
        BoundaryRules x = laid("r0,+.;");
        for (int y = 0; y <= 5; y++) {
            for (int bad : new int[] {-1, 6, LEAST_INT, GREATEST_INT}) {
                due("known(" + bad + ", " + y + ")", x.known(bad, y), BAD);
                due("known(" + y + ", " + bad + ")", x.known(y, bad), BAD);
                due("known(" + bad + ", " + bad + ")", x.known(bad, bad), BAD);
            }
        }
    }

    // ---- back

    private static void backToTheGreatestPlace() {
        BoundaryRules x = laid(CLASSES + "r0,&1&12;saababc;");
        same("back(at, 0)", backs(x, 0), "0 0 0 0 4 4 6");
        same("back(at, 1)", backs(x, 1), "0 1 2 3 0 1 0");
        due("machine(4)", x.machine(4), 3);
        same("back(at, 0)", backs(laid(CLASSES + "r0,&1&12;sacab;"), 0), "0 0 2 3 3");
        x.tell(0, 3);
        same("back(at, 0) of another class", backs(x, 0), "0 0 2 3 4 5 6");
        due("machine(4)", x.machine(4), 1);
    }

    private static void backBehindTwoLetters() {
        BoundaryRules all = laid("r0,1;s" + THIRTY + ";");
        due("back(0, 0)", all.back(0, 0), 0);
        due("back(1, 0) behind one letter", all.back(1, 0), 0);
        due("back(1, 1)", all.back(1, 1), 1);
        for (int at = 2; at <= 30; at++) due("back(" + at + ", 0)", all.back(at, 0), at);
        due("back(30, 1)", all.back(30, 1), 0);
        due("machine(4)", all.machine(4), 1);
    }

    private static void backToTheBeginning() {
        BoundaryRules none = laid("r0,&..;s" + THIRTY + ";");
        for (int at = 0; at <= 30; at++) {
            due("back(" + at + ", 0)", none.back(at, 0), 0);
            due("back(" + at + ", 1)", none.back(at, 1), at);
        }
        due("machine(4)", none.machine(4), 30);
        BoundaryRules one = laid("r0,1;sa;");
        due("back(1, 1) of one", one.back(1, 1), 1);
        due("machine(4) of one", one.machine(4), 1);
        BoundaryRules empty = laid("r0,1;");
        due("back(0, 0) of none", empty.back(0, 0), 0);
        due("back(0, 1) of none", empty.back(0, 1), 0);
        due("machine(4) of none", empty.machine(4), 0);
    }

    private static void noSuchPlaceForBack() {
        for (int letters : new int[] {0, 1, 2, 30}) {
            BoundaryRules x = laid("r0,1;s" + "a".repeat(letters) + ";");
            for (int what = 0; what <= 1; what++) {
                due("back(-1, what)", x.back(-1, what), BAD);
                due("back(" + (letters + 1) + ", what)", x.back(letters + 1, what), BAD);
                for (int bad : FAR_OFF) due("back(bad, what)", x.back(bad, what), BAD);
            }
            due("back(0, -1)", x.back(0, -1), BAD);
            due("back(0, 2)", x.back(0, 2), BAD);
            for (int bad : FAR_OFF) due("back(" + letters + ", bad)", x.back(letters, bad), BAD);
        }
    }

    // ---- the table

    private static void tableFrom1To7() {
        fours("", 1);
        fours("c1,a;", 2);
        fours("c1,z;", 2);
        fours("c1,afkp;c2,q;", 6);
        fours("c1,afkp;c2,q;c3,u;", 7);
        fours("c1,afkp;c2,qz;c3,u;", 7);
        fours("c1,afkp;c2,q;c3,u;c1,y;", 6);
        fours("c1," + ALPHABET + ";", 2);
    }

    private static void tableByFours() {
        fours("c1,ad;", 2);
        fours("c1,de;", 3);
        fours("c1,d;c1,h;", 2);
        fours("c1,xy;", 3);
        fours("c1,af;", 3);
        fours("c4,a;c5,e;", 3);
        fours("c5,d;c5,h;c5,l;c5,p;c5,t;c5,x;", 2);
        fours("c1,a;c2,b;c1,f;c2,e;", 3);
    }

    private static void yAndZAndTwoOfClass0() {
        fours("c1,yz;", 2);
        fours("c1,abyz;", 2);
        fours("c1,abcdyz;", 3);
        fours("c1,cdyz;", 3);
        fours("c2,a;c2,y;", 2);
        fours("c2,b;c2,z;", 2);
        fours("c2,b;c2,y;", 3);
    }

    private static void tableByActs() {
        BoundaryRules x = laid("r0,1;");
        x.tell(25, 5);
        due("machine(3)", x.machine(3), 2);
        x.undo();
        due("machine(3) of undone", x.machine(3), 1);
        x.insert(0, 25);
        due("machine(3) of a letter put in", x.machine(3), 1);
    }

    // ---- idle

    private static void idleFromNoneToAll() {
        due("idle() of no line", laid("r0,+1;r0,2;r0,3;r0,.;").idle(), 15);
        due("idle() of one letter", laid("c1,a;r0,+1;r0,2;r0,3;r0,.;sa;").idle(), 15);
        due("idle() of the only rule", laid("r0,1;s" + THIRTY + ";").idle(), 1);
        due("idle() of one that is needed", laid("r0,+.;s" + THIRTY + ";").idle(), 0);
        due("idle() of four that are needed", laid(CLASSES + "r0,&11;r0,&22;r0,&33;r0,&44;saabbccdd;").idle(), 0);
        for (int r = 0; r < 4; r++) {
            String[] letters = {"aa", "bb", "cc", "dd"};
            letters[r] = "";
            BoundaryRules x = laid(CLASSES + "r0,&11;r0,&22;r0,&33;r0,&44;s" + String.join("", letters) + ";");
            due("idle() without what " + r + " is for", x.idle(), 1 << r);
        }
    }

    private static void idleOfEachAlone() {
        due("idle() of two the same", laid("c1,a;r0,+1;r0,+1;saa;").idle(), 3);
        due("idle() of two, one for more", laid(CLASSES + "r0,+1;r0,+.;sab;").idle(), 1);
        due("idle() of three the same", laid("c1,a;r0,+1;r0,+1;r0,+1;saa;").idle(), 7);
        due("idle() of a short one", laid("c1,a;r2,+1;r0,+1;saa;").idle(), 1);
        due("idle() of a loose one", laid("c1,a;c5,q;r1,1;r0,2;saq;").idle(), 2);
        due("idle() where a piece goes on too far with it", laid(CLASSES + "r0,&12;r0,&1&23;sabab;").idle(), 3);
    }

    private static void idleAsThingsStand() {
        BoundaryRules x = laid("c1,a;r0,+1;r0,2;sab;");
        due("idle()", x.idle(), 3);
        x.insert(0, 0);
        due("idle() of aab", x.idle(), 2);
        x.rename(0, 2);
        due("idle() of a short one", x.idle(), 3);
        x.undo();
        x.tell(0, 0);
        due("idle() of another class", x.idle(), 3);
        x.undo();
        due("idle() of undone", x.idle(), 2);
        same("the stands are as they were", stands(x), "1 1 0");
        due("rule(0, 2) is as it was", x.rule(0, 2), 1);
        due("machine(0) is as it was", x.machine(0), 3);
    }

    // ---- least

    /** A row of 16 signs has 8 places at most, and each row is whole at one, so that there is no NONE to be seen. */
    private static void leastFrom1To8() {
        for (int letters = 1; letters <= 8; letters++) {
            String row = "&.".repeat(letters - 1) + ".";
            for (int kind = 0; kind <= 3; kind++) {
                due("least(0) of " + row, laid("r" + kind + "," + row + ";").least(0), letters);
                due("least(1) of " + row, laid("r0,1;r" + kind + "," + row + ";").least(1), letters);
            }
        }
        due("least(0) of eight classes", laid("r0,&0&1&2&3&4&5&01;").least(0), 8);
        due("least(0) of eight and over again", laid("r0,+&0&1&2&3&4&5&01;").least(0), 8);
    }

    private static void leastOfTheFewest() {
        due("least(0)", laid("r0,&?1&?2.;").least(0), 1);
        due("least(0)", laid("r0,&*1&+23;").least(0), 2);
        due("least(0)", laid("r0,|&1&232;").least(0), 1);
        due("least(0)", laid("r0,|&1&23&2&3&45;").least(0), 3);
        due("least(0)", laid("r0,?&1&2?3;").least(0), 2);
        // whatever the others do in that piece
        BoundaryRules x = laid("r0,&1&23;r2,1;r0,&1&.&34;r3,+|12;");
        int[] wants = {3, 1, 4, 1};
        for (int r = 0; r < 4; r++) due("least(" + r + ")", x.least(r), wants[r]);
    }

    private static void leastOfSuchAsThereAre() {
        for (int rules = 1; rules <= 4; rules++) {
            BoundaryRules x = laid("r0,1;".repeat(rules));
            due("least(" + (rules - 1) + ")", x.least(rules - 1), 1);
            due("least(" + rules + ")", x.least(rules), BAD);
            due("least(-1)", x.least(-1), BAD);
            for (int bad : FAR_OFF) due("least(bad)", x.least(bad), BAD);
        }
    }

    // ---- days

    private static int longest(BoundaryRules x) {
        int longest = 0;
        for (int i = 0; i < x.count(3); i++) longest = Math.max(longest, x.piece(i, 1));
        return longest;
    }

    /** The acts of a day, one by one; seen[i] is how often: put in, no room, taken out, none there, class, the same. */
    private static void live(BoundaryRules x, int z, int n, int[] seen) {
        for (int k = 0; k < n; k++) {
            BigInteger sum = BigInteger.valueOf(7919).multiply(BigInteger.valueOf(z))
                .add(BigInteger.valueOf(6151).multiply(BigInteger.valueOf(k))).add(BigInteger.ONE);
            int draw = sum.multiply(sum).mod(BigInteger.valueOf(65521)).intValue();
            int letters = x.count(2), by8 = draw / 8, by256 = draw / 256;
            switch (draw % 4) {
                case 2:
                    seen[letters > 0 ? 2 : 3]++;
                    if (letters > 0) x.erase(by256 % letters);
                    break;
                case 3:
                    seen[x.tell(by8 % 26, by256 % 6) == NO ? 5 : 4]++;
                    break;
                default:
                    seen[letters < 30 ? 0 : 1]++;
                    if (letters < 30) x.insert(by256 % (letters + 1), by8 % 26);
                    break;
            }
        }
    }

    private static void aDayIsItsActs() {
        int[] seen = new int[6];
        for (int letters : new int[] {0, 1, 2, 29, 30}) {
            String text = "c1,aeiou;c2,bcdfg;c5,qz;r0,+|12;r3,&.?5;s" + THIRTY.substring(0, letters) + ";";
            for (int z : new int[] {0, 1, 2, 3, 4, 77, 4999, 5000, 9998, 9999}) {
                for (int n : new int[] {1, 2, 3, 20, 39, 40}) {
                    BoundaryRules x = laid(text), y = laid(text);
                    live(y, z, n, seen);
                    int[] wants = {y.count(2), y.count(3), longest(y)};
                    for (int what = 0; what < 3; what++) {
                        due("day(" + z + ", " + n + ", " + what + ") of " + text, x.day(z, n, what), wants[what]);
                    }
                }
            }
        }
        for (int i = 0; i < seen.length; i++) due("whether case " + i + " has come", seen[i] > 0 ? 1 : 0, 1);
    }

    private static void daysFromNowOn() {
        BoundaryRules x = laid("c1,a;r0,+1;saa;");
        // DRAW of z = 0, k = 0 is 1: a is PUT IN at 0
        due("day(0, 1, 2)", x.day(0, 1, 2), 3);
        x.rename(0, 2);
        due("day(0, 1, 2) of another kind", x.day(0, 1, 2), 1);
        x.undo();
        x.tell(0, 2);
        due("day(0, 1, 2) of another class", x.day(0, 1, 2), 1);
        x.undo();
        x.insert(2, 0);
        due("day(0, 1, 2) of another line", x.day(0, 1, 2), 4);
        due("day(0, 1, 0)", x.day(0, 1, 0), 4);
        due("day(0, 1, 1)", x.day(0, 1, 1), 1);
    }

    private static void aDayChangesNothing() {
        BoundaryRules x = laid("c1,a;r0,+1;saab;");
        x.insert(0, 1);
        x.keep();
        String counts = counts(x), line = line(x), kinds = kinds(x), stands = stands(x);
        for (int what = 0; what < 3; what++) x.day(9999, 40, what);
        same("count() of all", counts(x), counts);
        same("the line", line(x), line);
        same("the classes", kinds(x), kinds);
        same("the stands", stands(x), stands);
        due("undo()", x.undo(), 0);
        due("restore()", x.restore(), 0);
        same("the line", line(x), line);
    }

    private static void aDayIfThereIsRoom() {
        BoundaryRules x = laid("c1,a;r0,+1;s" + THIRTY + ";"), y = laid("c1,a;r0,+1;s" + THIRTY.substring(1) + ";");
        due("day(0, 1, 0) of 30", x.day(0, 1, 0), 30);
        due("day(0, 1, 2) of 30", x.day(0, 1, 2), 1);
        due("day(0, 1, 0) of 29", y.day(0, 1, 0), 30);
    }

    private static void aDayIfThereIsOne() {
        // DRAW of z = 3, k = 0 is 44670: one is TAKEN OUT
        BoundaryRules none = laid("r0,1;"), one = laid("r0,1;sa;");
        for (int what = 0; what < 3; what++) {
            due("day(3, 1, " + what + ") of none", none.day(3, 1, what), 0);
            due("day(3, 1, " + what + ") of one", one.day(3, 1, what), 0);
        }
        // DRAW of z = 0, k = 0 is 1, and the line has a piece then
        for (int what = 0; what < 3; what++) due("day(0, 1, " + what + ") of none", none.day(0, 1, what), 1);
    }

    private static void noSuchDay() {
        BoundaryRules x = laid("r0,1;sa;");
        for (int what = 0; what <= 2; what++) {
            for (int bad : new int[] {-1, 10000, LEAST_INT, GREATEST_INT}) {
                due("day(" + bad + ", 1, " + what + ")", x.day(bad, 1, what), BAD);
                due("day(" + bad + ", 40, " + what + ")", x.day(bad, 40, what), BAD);
            }
            for (int bad : new int[] {-1, 0, 41, LEAST_INT, GREATEST_INT}) {
                due("day(0, " + bad + ", " + what + ")", x.day(0, bad, what), BAD);
                due("day(9999, " + bad + ", " + what + ")", x.day(9999, bad, what), BAD);
            }
        }
        for (int bad : new int[] {-1, 3, LEAST_INT, GREATEST_INT}) {
            due("day(0, 1, " + bad + ")", x.day(0, 1, bad), BAD);
            due("day(9999, 40, " + bad + ")", x.day(9999, 40, bad), BAD);
        }
        due("day(0, 1, 0)", x.day(0, 1, 0), 2);
        due("day(9999, 40, 1) < 0", x.day(9999, 40, 1) < 0 ? 1 : 0, 0);
    }

    // ---- kept

    private static void twoAtMost() {
        BoundaryRules x = laid("r0,1;");
        due("count(5)", x.count(5), 0);
        due("keep()", x.keep(), 1);
        x.insert(0, 1);
        due("keep()", x.keep(), 2);
        x.insert(0, 0);
        due("keep() of three", x.keep(), FULL);
        due("keep() of three again", x.keep(), FULL);
        due("count(5)", x.count(5), 2);
        same("the line", line(x), "ab");
        due("restore()", x.restore(), 1);
        same("the line kept last", line(x), "b");
        due("keep() where there is room", x.keep(), 2);
        due("keep()", x.keep(), FULL);
        due("restore()", x.restore(), 1);
        due("restore()", x.restore(), 0);
        same("the line kept first", line(x), "");
        due("restore() of none", x.restore(), NO);
        due("count(5)", x.count(5), 0);
        due("keep()", x.keep(), 1);
    }

    private static void noneIsKeptAtFirst() {
        BoundaryRules x = new BoundaryRules();
        due("restore()", x.restore(), NO);
        due("restore()", x.restore(), NO);
        same("count() of all", counts(x), "4 9 17 7 0 0 0");
        same("the line", line(x), "baqbxyzaqqebcxqzz");
    }

    private static void keptIsAllAsItStands() {
        BoundaryRules x = laid("c1,a;c5,q;r0,+1;r2,&1.;saqa;");
        same("the stands", stands(x), "3 4 3");
        x.keep();
        x.tell(16, 1);
        x.rename(0, 3);
        x.rename(1, 1);
        x.insert(3, 0);
        String stands = stands(x), machines = machines(x);
        x.keep();
        x.erase(0);
        x.rename(0, 0);
        x.tell(0, 4);
        x.tell(25, 4);
        due("restore()", x.restore(), 1);
        same("the line", line(x), "aqaa");
        same("the classes", kinds(x), "1" + "0".repeat(15) + "1" + "0".repeat(9));
        due("rule(0, 0)", x.rule(0, 0), 3);
        due("rule(1, 0)", x.rule(1, 0), 1);
        same("the stands", stands(x), stands);
        same("machine()", machines(x), machines);
        due("restore()", x.restore(), 0);
        same("the line", line(x), "aqa");
        due("kind(16)", x.kind(16), 5);
        due("rule(0, 0)", x.rule(0, 0), 0);
        due("rule(1, 0)", x.rule(1, 0), 2);
        same("the stands", stands(x), "3 4 3");
    }

    private static void keptOfALineOf30AndOfNone() {
        BoundaryRules x = laid("r0,1;s" + THIRTY + ";");
        x.keep();
        for (int i = 0; i < 30; i++) x.erase(0);
        x.keep();
        x.insert(0, 4);
        due("restore() of none", x.restore(), 1);
        same("the line", line(x), "");
        same("the boundaries", bounds(x), "1");
        due("restore() of thirty", x.restore(), 0);
        same("the line", line(x), THIRTY);
        due("insert()", x.insert(0, 0), FULL);
    }

    private static void theTextStaysByRestore() {
        BoundaryRules x = laid("r0,1;");
        x.keep();
        x.write('x');
        due("restore()", x.restore(), 0);
        due("count(6)", x.count(6), 6);
        due("fault()", x.fault(), 5);
        x.keep();
        x.wipe();
        due("restore()", x.restore(), 0);
        due("count(6)", x.count(6), 0);
        due("fault()", x.fault(), NONE);
    }

    private static void nothingIsUndoneByRestore() {
        BoundaryRules x = laid("r0,1;sab;");
        x.insert(0, 2);
        x.keep();
        x.keep();
        due("count(4) behind keep()", x.count(4), 1);
        due("undo() behind keep()", x.undo(), 0);
        x.insert(0, 3);
        due("restore()", x.restore(), 1);
        due("count(4)", x.count(4), 0);
        due("undo()", x.undo(), NO);
        same("the line", line(x), "cab");
        x.erase(0);
        due("count(4)", x.count(4), 1);
        due("undo()", x.undo(), 0);
        x.erase(0);
        due("restore()", x.restore(), 0);
        due("undo()", x.undo(), NO);
        same("the line", line(x), "cab");
    }

    private static void undoLeavesWhatIsKept() {
        BoundaryRules x = laid("r0,1;sab;");
        x.keep();
        x.insert(0, 2);
        x.keep();
        due("undo()", x.undo(), 0);
        due("count(5)", x.count(5), 2);
        due("restore()", x.restore(), 1);
        same("the line", line(x), "cab");
        due("restore()", x.restore(), 0);
        same("the line", line(x), "ab");
    }

    private static void refusedRestoreLeavesWhatIsUndone() {
        BoundaryRules x = laid("r0,1;sab;");
        x.insert(0, 2);
        due("restore()", x.restore(), NO);
        due("count(4)", x.count(4), 1);
        due("undo()", x.undo(), 0);
        same("the line", line(x), "ab");
    }

    // ---- counts

    private static void countsFromTheLeastToTheGreatest() {
        same("count() of all", counts(laid("r0,1;")), "1 1 0 0 0 0 5");
        BoundaryRules x = laid("r0,1;r0,&12;r0,&1&23;r0,&1&2&34;s" + THIRTY + ";");
        same("count() of all", counts(x), "4 10 30 30 0 0 64");
        for (int i = 0; i < 9; i++) x.tell(i, 5);
        for (int i = 0; i < 3; i++) x.keep();
        for (int i = 0; i < 140; i++) x.write(' ');
        same("count() of all", counts(x), "4 10 30 30 8 2 200");
    }

    private static void noSuchCount() {
        BoundaryRules x = new BoundaryRules();
        due("count(-1)", x.count(-1), BAD);
        due("count(7)", x.count(7), BAD);
        for (int bad : FAR_OFF) due("count(bad)", x.count(bad), BAD);
    }

    private static void fiveHundredAndTwelveCalls() {
        BoundaryRules x = new BoundaryRules();
        for (int call = 0; call < 508; call++) due("tell(0, ..)", x.tell(0, 2 - call % 2), 1 + call % 2);
        due("undo(), call 509", x.undo(), 7);
        due("keep(), call 510", x.keep(), 1);
        due("insert(17, 25), call 511", x.insert(17, 25), 18);
        due("count(4), call 512", x.count(4), 8);
        BoundaryRules y = new BoundaryRules();
        for (int call = 1; call <= 512; call++) due("write(32)", y.write(32), call <= 200 ? call : FULL);
    }

    private static void theWays() {
        test("WAYS are all STANDS to which pieces come", WaysEdgeTest::waysFromOne);
        test("WAYS: ALONE, too, where one comes to it", WaysEdgeTest::aloneWhereOneComesToIt);
        test("WAYS by KINDS", WaysEdgeTest::waysByKinds);
        test("WAYS of any LETTERS (of CLASSES 0 to 5)", WaysEdgeTest::waysWhateverTheLetters);
        test("Promise 19: BAD", WaysEdgeTest::noSuchMachine);
        test("WAYS are ALIKE by each row of CLASSES", WaysEdgeTest::waysAlikeByEachRow);
        test("CLASSES are ALIKE: all, or none", WaysEdgeTest::classesAlikeAll);
        test("CLASSES are ALIKE, if by each any WAY goes on", WaysEdgeTest::classesUnlikeByOneThing);
        test("Promise 20: BAD", WaysEdgeTest::noSuchClassesAlike);
        test("KNOWN PAIRS: none to 36", WaysEdgeTest::pairsKnownFromNoneTo36);
        test("A PAIR, one next to the other", WaysEdgeTest::aPairOneNextToTheOther);
        test("KNOWN: and at a LINE's beginning", WaysEdgeTest::aPairAtALinesBeginning);
        test("Promise 21: BAD", WaysEdgeTest::noSuchPair);
        test("BACK: the greatest place, it or one ahead", WaysEdgeTest::backToTheGreatestPlace);
        test("BACK: behind two LETTERS", WaysEdgeTest::backBehindTwoLetters);
        test("BACK: that is 0; how far", WaysEdgeTest::backToTheBeginning);
        test("Promise 22: BAD", WaysEdgeTest::noSuchPlaceForBack);
    }

    private static void theRest() {
        test("TABLE: how many fours are unlike, 1 to 7", WaysEdgeTest::tableFrom1To7);
        test("TABLE: a to d, e to h, ..", WaysEdgeTest::tableByFours);
        test("TABLE: y and z and two of CLASS 0", WaysEdgeTest::yAndZAndTwoOfClass0);
        test("TABLE as CLASSES stand", WaysEdgeTest::tableByActs);
        test("IDLE: none to all", WaysEdgeTest::idleFromNoneToAll);
        test("IDLE: without each of which alone", WaysEdgeTest::idleOfEachAlone);
        test("IDLE as things stand, and no more", WaysEdgeTest::idleAsThingsStand);
        test("LEAST (1 to 8)", WaysEdgeTest::leastFrom1To8);
        test("LEAST: the fewest LETTERS", WaysEdgeTest::leastOfTheFewest);
        test("Promise 24: BAD", WaysEdgeTest::leastOfSuchAsThereAre);
        test("A DAY by its DRAWS", WaysEdgeTest::aDayIsItsActs);
        test("A DAY from now on", WaysEdgeTest::daysFromNowOn);
        test("A DAY tells, and no more", WaysEdgeTest::aDayChangesNothing);
        test("A DAY: if there is room", WaysEdgeTest::aDayIfThereIsRoom);
        test("A DAY: if there is one", WaysEdgeTest::aDayIfThereIsOne);
        test("A DAY by z (0 to 9999) of n (1 to 40); BAD", WaysEdgeTest::noSuchDay);
        test("KEPT: 2 at most; FULL", WaysEdgeTest::twoAtMost);
        test("Promise 27: NO", WaysEdgeTest::noneIsKeptAtFirst);
        test("KEPT is all as it stands", WaysEdgeTest::keptIsAllAsItStands);
        test("KEPT of a LINE of 30, of none", WaysEdgeTest::keptOfALineOf30AndOfNone);
        test("KEPT: but THE TEXT (that stays)", WaysEdgeTest::theTextStaysByRestore);
        test("Promise 27: nothing is UNDONE then", WaysEdgeTest::nothingIsUndoneByRestore);
        test("KEPT beside UNDONE", WaysEdgeTest::undoLeavesWhatIsKept);
        test("Promise 27: NO: nothing changes then", WaysEdgeTest::refusedRestoreLeavesWhatIsUndone);
        test("Promise 28: the least and the greatest", WaysEdgeTest::countsFromTheLeastToTheGreatest);
        test("Promise 28: BAD", WaysEdgeTest::noSuchCount);
        test("at most 512 calls", WaysEdgeTest::fiveHundredAndTwelveCalls);
    }

    public static void main(String[] args) {
        theWays();
        theRest();
        end("WaysEdgeTest");
    }
}
