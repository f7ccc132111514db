/** Sentence by sentence what the document says of rows, STANDS, pieces and acts (promises 6 to 18), at its edges. */
public final class PieceEdgeTest extends Due {
    private static final int[] FAR_OFF = {LEAST_INT, -31, GREATEST_INT, GREATEST_INT - 1};
    private static final String CLASSES = "c1,a;c2,b;c3,c;c4,d;c5,q;";

    private static void rowDue(String row, int first, int whole, int... behind) {
        BoundaryRules x = laid("r0," + row + ";");
        due("FIRST of " + row, x.rule(0, 2), first);
        due("WHOLE of " + row, x.rule(0, 3), whole);
        due("PLACES of " + row, x.rule(0, 1), (1 << behind.length) - 1);
        for (int p = 0; p < behind.length; p++) due("BEHIND " + p + " of " + row, x.place(p, 1), behind[p]);
    }

    /** The rules and the line, letters being of the classes above. */
    private static void partedDue(String rules, String line, String parted) {
        same("the line of " + rules + " parted", parted(laid(CLASSES + rules + "s" + line + ";")), parted);
    }

    private static void standsDue(String rules, String line, String stands) {
        same("the stands of " + rules + "s" + line, stands(laid(CLASSES + rules + "s" + line + ";")), stands);
    }

    // ---- rows

    private static void rowsOfEachSign() {
        for (char sign : "012345.".toCharArray()) rowDue("" + sign, 1, 1, 0);
        rowDue("&12", 1, 2, 2, 0);
        rowDue("|12", 3, 3, 0, 0);
        rowDue("*1", 1, 1, 1);
        rowDue("+1", 1, 1, 1);
        rowDue("?1", 1, 1, 0);
        due("place(0, 0) of .", laid("r0,.;").place(0, 0), 6);
        for (int x = 0; x <= 5; x++) due("place(0, 0)", laid("r0," + x + ";").place(0, 0), x);
    }

    private static void wholeIfNothingMoreMustCome() {
        rowDue("&1?2", 1, 3, 2, 0);
        rowDue("&1*2", 1, 3, 2, 2);
        rowDue("&1+2", 1, 2, 2, 2);
        rowDue("&1&?2?3", 1, 7, 6, 4, 0);
        rowDue("&1&?23", 1, 4, 6, 4, 0);
        rowDue("&1|2?3", 1, 7, 6, 0, 0);
        rowDue("&1+?2", 1, 3, 2, 2);
        rowDue("|1&23", 3, 5, 0, 4, 0);
    }

    private static void firstWhereItMayBegin() {
        rowDue("&?12", 3, 2, 2, 0);
        rowDue("&*12", 3, 2, 3, 0);
        rowDue("&+12", 1, 2, 3, 0);
        rowDue("&?1&?23", 7, 4, 6, 4, 0);
        rowDue("&&?1?23", 7, 4, 6, 4, 0);
        rowDue("&|?123", 7, 4, 4, 4, 0);
        rowDue("&+?12", 3, 2, 3, 0);
        rowDue("?&12", 1, 2, 2, 0);
    }

    private static void starAndPlusOverAgain() {
        rowDue("*&12", 1, 2, 2, 1);
        rowDue("+&12", 1, 2, 2, 1);
        rowDue("+|12", 3, 3, 3, 3);
        rowDue("*?1", 1, 1, 1);
        rowDue("?*1", 1, 1, 1);
        rowDue("+*1", 1, 1, 1);
        rowDue("*&1?2", 1, 3, 3, 1);
        rowDue("+&?12", 3, 2, 2, 3);
        rowDue("&+1+2", 1, 2, 3, 2);
        rowDue("+&*1*2", 3, 3, 3, 3);
        rowDue("&*&123", 5, 4, 2, 5, 0);
    }

    private static void rowsOfMostPlaces() {
        rowDue("&.&.&.&.&.&.&..", 1, 128, 2, 4, 8, 16, 32, 64, 128, 0);
        rowDue("+&.&.&.&.&.&.&..", 1, 128, 2, 4, 8, 16, 32, 64, 128, 1);
        rowDue("&&&&&&&........", 1, 128, 2, 4, 8, 16, 32, 64, 128, 0);
        rowDue("*|.|.|.|.|.|.|..", 255, 255, 255, 255, 255, 255, 255, 255, 255, 255);
        rowDue("*".repeat(15) + "1", 1, 1, 1);
        BoundaryRules x = laid("r0,|1|1|1|1|1|1|11;r0,+&12;");
        int[] want = {0, 768, 256, 512};
        for (int what = 0; what < 4; what++) due("rule(1, " + what + ")", x.rule(1, what), want[what]);
        due("place(8, 1)", x.place(8, 1), 512);
        due("place(9, 1)", x.place(9, 1), 256);
    }

    private static void asItsRowTellsOfAnyKind() {
        for (int kind = 0; kind <= 3; kind++) {
            BoundaryRules x = laid("r" + kind + ",&+1*5;");
            for (int time = 0; time < 2; time++) {
                due("rule(0, 2)", x.rule(0, 2), 1);
                due("rule(0, 3)", x.rule(0, 3), 3);
                due("place(0, 1)", x.place(0, 1), 3);
                due("place(1, 1)", x.place(1, 1), 2);
                x.rename(0, 3 - kind);
            }
        }
    }

    private static void rulesSuchAsThereAre() {
        for (int rules = 1; rules <= 4; rules++) {
            BoundaryRules x = laid("r3,1;".repeat(rules));
            due("rule(0, 0)", x.rule(0, 0), 3);
            due("the last rule's places", x.rule(rules - 1, 1), 1 << rules - 1);
            due("rule(" + rules + ", 0)", x.rule(rules, 0), BAD);
            due("rule(-1, 0)", x.rule(-1, 0), BAD);
            due("rule(0, 4)", x.rule(0, 4), BAD);
            due("rule(0, -1)", x.rule(0, -1), BAD);
            for (int bad : FAR_OFF) due("rule(bad, 0)", x.rule(bad, 0), BAD);
            for (int bad : FAR_OFF) due("rule(0, bad)", x.rule(0, bad), BAD);
        }
    }

    private static void placesSuchAsThereAre() {
        for (int places = 1; places <= 8; places++) {
            BoundaryRules x = laid("r0," + "|4".repeat(places - 1) + "4;");
            due("place(0, 0)", x.place(0, 0), 4);
            due("the last place", x.place(places - 1, 0), 4);
            due("place(-1, 0)", x.place(-1, 0), BAD);
            for (int what = -1; what <= 2; what++) due("place(" + places + ", what)", x.place(places, what), BAD);
            due("place(0, 2)", x.place(0, 2), BAD);
            due("place(0, -1)", x.place(0, -1), BAD);
            for (int bad : FAR_OFF) due("place(bad, 0)", x.place(bad, 0), BAD);
            for (int bad : FAR_OFF) due("place(0, bad)", x.place(0, bad), BAD);
        }
    }

    private static void placesOfAShorterTextAreGone() {
        BoundaryRules x = laid("r1,&.&.&..;r2,1;r3,2;");
        put(x, "r0,?3;").lay();
        due("rule(0, 1)", x.rule(0, 1), 1);
        due("rule(1, 1)", x.rule(1, 1), BAD);
        due("place(0, 0)", x.place(0, 0), 3);
        due("place(0, 1)", x.place(0, 1), 0);
        due("place(1, 0)", x.place(1, 0), BAD);
        put(x, "r0,1;r0,2;").lay();
        due("rule(1, 0)", x.rule(1, 0), 0);
        due("rule(1, 3)", x.rule(1, 3), 2);
    }

    // ---- letters

    private static void lettersSuchAsThereAre() {
        BoundaryRules x = laid("r0,1;c4,az;");
        due("kind(0)", x.kind(0), 4);
        due("kind(25)", x.kind(25), 4);
        due("kind(1)", x.kind(1), 0);
        due("kind(-1)", x.kind(-1), BAD);
        due("kind(26)", x.kind(26), BAD);
        for (int bad : FAR_OFF) due("kind(bad)", x.kind(bad), BAD);
    }

    private static void theLetterBehindAPlace() {
        BoundaryRules x = laid("r0,1;s" + THIRTY + ";");
        for (int at = 0; at < 30; at++) due("letter(" + at + ")", x.letter(at), at % 26);
        due("letter(30)", x.letter(30), NONE);
        due("letter(31)", x.letter(31), BAD);
        due("letter(-1)", x.letter(-1), BAD);
        for (int bad : FAR_OFF) due("letter(bad)", x.letter(bad), BAD);
        BoundaryRules none = laid("r0,1;");
        due("letter(0) of none", none.letter(0), NONE);
        due("letter(1) of none", none.letter(1), BAD);
        due("letter(-1) of none", none.letter(-1), BAD);
        BoundaryRules one = laid("r0,1;sz;");
        due("letter(0) of one", one.letter(0), 25);
        due("letter(1) of one", one.letter(1), NONE);
        due("letter(2) of one", one.letter(2), BAD);
    }

    private static void aTakenOutLetterIsGone() {
        BoundaryRules x = laid("r0,1;sabc;");
        x.erase(2);
        due("letter(2)", x.letter(2), NONE);
        due("letter(3)", x.letter(3), BAD);
        due("stand(3)", x.stand(3), BAD);
        due("isBoundary(3)", x.isBoundary(3), BAD);
    }

    // ---- stands

    private static void aPlaceOfAClassTakesThat() {
        for (int x = 0; x <= 5; x++) {
            for (int y = 0; y <= 5; y++) due("stand(1)", laid("c" + x + ",a;r0," + y + ";sa;").stand(1), x == y ? 1 : 0);
            due("stand(1) of .", laid("c" + x + ",a;r0,.;sa;").stand(1), 1);
        }
    }

    private static void begunByThoseFirstOfAllRules() {
        standsDue("r0,1;r1,1;r2,.;r3,2;", "a", "7");
        standsDue("r0,1;r1,1;r2,.;r3,2;", "b", "12");
        standsDue("r0,&12;", "b", "0");
        standsDue("r0,&?12;", "b", "2");
        due("stand(1) of ten", laid("r0,|.|.|.|.|.|.|..;r0,|..;sa;").stand(1), 1023);
        due("stand(1) of the tenth", laid("c5,a;r0,|.|.|.|.|.|.|.4;r0,|.5;sa;").stand(1), 1023 - 128);
    }

    private static void aloneIfThatIsNone() {
        standsDue("r0,1;", "bcdqe", "0 0 0 0 0");
        partedDue("r0,1;", "bcdqe", "b|c|d|q|e");
        partedDue("r0,&12;", "eeabe", "e|e|ab|e");
        partedDue("r1,+1;", "qqa", "q|q|a");
    }

    private static void thoseBehindTogether() {
        standsDue("r0,&1.;r0,&12;", "ab", "5 10");
        standsDue("r0,&1&23;r0,&12;", "abc", "9 18 4");
        standsDue("r0,&*1&.2;", "aab", "3 3 6");
        standsDue("r0,+1;", "aaab", "1 1 1 0");
    }

    private static void theNextBegunWhereOneEnds() {
        partedDue("r0,&12;", "abab", "ab|ab");
        partedDue("r0,&12;", "aab", "a|ab");
        partedDue("r0,&1&23;r0,+2;", "abbc", "ab|b|c");
        standsDue("r0,&1&23;r0,+2;", "abbc", "1 2 8 0");
        partedDue("r0,&1&13;", "aaac", "aa|a|c");
    }

    private static void aShortRuleWhereItIsWhole() {
        partedDue("r0,+1;", "aaa", "aaa");
        partedDue("r2,+1;", "aaa", "a|a|a");
        partedDue("r2,&1*2;", "abb", "a|b|b");
        partedDue("r2,&1+2;", "abb", "ab|b");
        partedDue("r2,&+12;", "aab", "aab");
        partedDue("r2,+5;", "qq", "q|q");
        partedDue("r2,|1&11;", "aa", "aa");
        partedDue("r2,&?11;", "aa", "aa");
    }

    private static void aShortRuleAlone() {
        BoundaryRules x = laid(CLASSES + "r2,+1;r0,&1&11;saaa;");
        same("the stands", stands(x), "3 4 8");
        due("piece(0, 2)", x.piece(0, 2), 2);
        due("piece(0, 3)", x.piece(0, 3), 2);
        standsDue("r0,+1;r2,+1;", "aaa", "3 1 1");
    }

    private static void aLooseRuleStaysByClass5Alone() {
        String[] wants = {"a|e|a", "aea", "a|e|a", "a|e|a", "a|e|a", "aea"};
        for (int x = 0; x <= 5; x++) {
            same("parted by class " + x, parted(laid("c1,a;c" + x + ",e;r1,&1&11;saea;")), wants[x]);
        }
        standsDue("r1,&1&11;", "aqaqaq", "1 1 2 2 4 4");
        standsDue("r1,&11;r0,&11;", "aqa", "5 1 2");
        standsDue("r0,&11;r1,&11;", "aqa", "5 4 8");
        standsDue("r1,&11;r1,&11;", "aqa", "5 5 10");
        standsDue("r3,&11;r0,1;r1,&11;", "aqa", "13 9 18");
        standsDue("r1,&1|52;", "aqqb", "1 3 3 4");
        standsDue("r1,1;", "qa", "0 1");
    }

    private static void aLooseRuleStaysForTheWholeLine() {
        BoundaryRules x = laid("c1,a;c5,q;r1,1;sa" + "q".repeat(29) + ";");
        same("the stands", stands(x), "1" + " 1".repeat(29));
        due("piece(0, 1)", x.piece(0, 1), 30);
        x.rename(0, 0);
        same("the stands of a plain one", stands(x), "1" + " 0".repeat(29));
        due("count(3)", x.count(3), 30);
    }

    private static void bothIsShortAndLoose() {
        String[] wants = {"a|q|b", "aqb", "a|q|b", "aq|b"};
        for (int kind = 0; kind <= 3; kind++) partedDue("r" + kind + ",&1?2;", "aqb", wants[kind]);
        wants = new String[] {"ab", "ab", "a|b", "a|b"};
        for (int kind = 0; kind <= 3; kind++) partedDue("r" + kind + ",&1?2;", "ab", wants[kind]);
        wants = new String[] {"qq", "qq", "q|q", "qq"};
        for (int kind = 0; kind <= 3; kind++) partedDue("r" + kind + ",+5;", "qq", wants[kind]);
        standsDue("r3,&1&12;", "aqaqb", "1 1 2 2 4");
        standsDue("r3,&1*5;", "aqq", "1 1 1");
        standsDue("r1,&1*5;", "aqq", "1 3 3");
    }

    private static void theStandBehindALetter() {
        BoundaryRules x = laid("r0,+.;s" + THIRTY + ";");
        due("stand(0)", x.stand(0), NONE);
        due("stand(1)", x.stand(1), 1);
        due("stand(30)", x.stand(30), 1);
        for (int bad : new int[] {-1, 31, 32}) due("stand(" + bad + ")", x.stand(bad), BAD);
        for (int bad : FAR_OFF) due("stand(bad)", x.stand(bad), BAD);
        BoundaryRules none = laid("r0,.;");
        due("stand(0) of none", none.stand(0), NONE);
        due("stand(1) of none", none.stand(1), BAD);
        due("stand(-1) of none", none.stand(-1), BAD);
    }

    // ---- boundaries

    private static void boundariesAt0AndAtTheEnd() {
        same("the boundaries of none", bounds(laid("r0,.;")), "1");
        same("the boundaries of one", bounds(laid("r0,.;sa;")), "11");
        same("the boundaries of two", bounds(laid("r0,&..;saa;")), "101");
        same("the boundaries of thirty together", bounds(laid("r0,+.;s" + THIRTY + ";")), "1" + "0".repeat(29) + "1");
        same("the boundaries of thirty apart", bounds(laid("r0,1;s" + THIRTY + ";")), "1".repeat(31));
    }

    private static void aPlaceIsABoundary() {
        for (String text : new String[] {"r0,+.;s" + THIRTY + ";", "r0,1;s" + THIRTY + ";"}) {
            BoundaryRules x = laid(text);
            due("isBoundary(0)", x.isBoundary(0), 1);
            due("isBoundary(30)", x.isBoundary(30), 1);
            for (int bad : new int[] {-1, 31, 32, 64}) due("isBoundary(" + bad + ")", x.isBoundary(bad), BAD);
            for (int bad : FAR_OFF) due("isBoundary(bad)", x.isBoundary(bad), BAD);
        }
        BoundaryRules none = laid("r0,1;");
        due("isBoundary(0) of none", none.isBoundary(0), 1);
        due("isBoundary(1) of none", none.isBoundary(1), BAD);
        due("isBoundary(-1) of none", none.isBoundary(-1), BAD);
    }

    private static void theNextAndTheLastBoundary() {
        BoundaryRules together = laid("r0,+.;s" + THIRTY + ";");
        BoundaryRules apart = laid("r0,1;s" + THIRTY + ";");
        for (int at = 0; at <= 30; at++) {
            due("boundary(" + at + ", 0) together", together.boundary(at, 0), at < 30 ? 30 : NONE);
            due("boundary(" + at + ", 1) together", together.boundary(at, 1), at > 0 ? 0 : NONE);
            due("boundary(" + at + ", 0) apart", apart.boundary(at, 0), at < 30 ? at + 1 : NONE);
            due("boundary(" + at + ", 1) apart", apart.boundary(at, 1), at > 0 ? at - 1 : NONE);
        }
        BoundaryRules one = laid("r0,1;sa;");
        due("boundary(0, 0) of one", one.boundary(0, 0), 1);
        due("boundary(1, 1) of one", one.boundary(1, 1), 0);
        BoundaryRules none = laid("r0,1;");
        due("boundary(0, 0) of none", none.boundary(0, 0), NONE);
        due("boundary(0, 1) of none", none.boundary(0, 1), NONE);
    }

    private static void noSuchPlaceOrWay() {
        for (int letters : new int[] {0, 1, 30}) {
            BoundaryRules x = laid("r0,1;s" + "a".repeat(letters) + ";");
            for (int way = 0; way <= 1; way++) {
                due("boundary(-1, way)", x.boundary(-1, way), BAD);
                due("boundary(" + (letters + 1) + ", way)", x.boundary(letters + 1, way), BAD);
                for (int bad : FAR_OFF) due("boundary(bad, way)", x.boundary(bad, way), BAD);
            }
            // BAD ahead of NONE
            for (int at : new int[] {0, letters}) {
                due("boundary(" + at + ", -1)", x.boundary(at, -1), BAD);
                due("boundary(" + at + ", 2)", x.boundary(at, 2), BAD);
                for (int bad : FAR_OFF) due("boundary(" + at + ", bad)", x.boundary(at, bad), BAD);
            }
        }
    }

    // ---- pieces

    private static void piecesFromNoneTo30() {
        BoundaryRules none = laid("r0,1;");
        due("count(3) of none", none.count(3), 0);
        for (int what = -1; what <= 4; what++) due("piece(0, " + what + ") of none", none.piece(0, what), BAD);
        BoundaryRules one = laid("r0,+.;s" + THIRTY + ";");
        due("count(3) of one", one.count(3), 1);
        due("piece(0, 0)", one.piece(0, 0), 0);
        due("piece(0, 1)", one.piece(0, 1), 30);
        due("piece(1, 0)", one.piece(1, 0), BAD);
        BoundaryRules most = laid("r0,1;s" + THIRTY + ";");
        due("count(3) of thirty", most.count(3), 30);
        for (int i = 0; i < 30; i++) due("piece(" + i + ", 0)", most.piece(i, 0), i);
        for (int i = 0; i < 30; i++) due("piece(" + i + ", 1)", most.piece(i, 1), 1);
        due("piece(30, 0)", most.piece(30, 0), BAD);
    }

    private static void noSuchPiece() {
        BoundaryRules x = laid(CLASSES + "r0,&12;sabab;");
        for (int i : new int[] {-1, 2, 4}) due("piece(" + i + ", 0)", x.piece(i, 0), BAD);
        for (int i = 0; i < 2; i++) {
            due("piece(" + i + ", -1)", x.piece(i, -1), BAD);
            due("piece(" + i + ", 4)", x.piece(i, 4), BAD);
            for (int bad : FAR_OFF) due("piece(" + i + ", bad)", x.piece(i, bad), BAD);
        }
        for (int bad : FAR_OFF) due("piece(bad, 0)", x.piece(bad, 0), BAD);
    }

    private static void rulesAtThePiecesEnd() {
        BoundaryRules x = laid(CLASSES + "r0,1;r1,1;r2,1;r3,&1?2;sae;");
        due("piece(0, 2)", x.piece(0, 2), 15);
        due("piece(0, 3)", x.piece(0, 3), 15);
        due("piece(1, 2) of ALONE", x.piece(1, 2), 0);
        due("piece(1, 3) of ALONE", x.piece(1, 3), 0);
        x = laid(CLASSES + "r0,&12;r0,&11;r0,&1&13;r0,2;saa;");
        due("piece(0, 2)", x.piece(0, 2), 2);
        due("piece(0, 3)", x.piece(0, 3), 6);
        x = laid(CLASSES + "r0,&12;sa;");
        due("piece(0, 2) of one that is begun", x.piece(0, 2), 0);
        due("piece(0, 3) of one that is begun", x.piece(0, 3), 1);
    }

    // ---- acts

    private static void putInAtAPlace() {
        BoundaryRules x = laid("r0,1;sbc;");
        due("insert(0, 0)", x.insert(0, 0), 3);
        due("insert(3, 25)", x.insert(3, 25), 4);
        due("insert(2, 7)", x.insert(2, 7), 5);
        same("the line", line(x), "abhcz");
        due("insert(6, 0)", x.insert(6, 0), BAD);
        due("insert(-1, 0)", x.insert(-1, 0), BAD);
        due("insert(5, 26)", x.insert(5, 26), BAD);
        due("insert(5, -1)", x.insert(5, -1), BAD);
        for (int bad : FAR_OFF) due("insert(bad, 0)", x.insert(bad, 0), BAD);
        for (int bad : FAR_OFF) due("insert(0, bad)", x.insert(0, bad), BAD);
        same("the line", line(x), "abhcz");
        BoundaryRules none = laid("r0,1;");
        due("insert(1, 0) in none", none.insert(1, 0), BAD);
        due("insert(0, 25) in none", none.insert(0, 25), 1);
        due("letter(0)", none.letter(0), 25);
    }

    private static void thirtyAtMost() {
        BoundaryRules x = laid("c1,a;r0,+1;s" + THIRTY.substring(1) + ";");
        due("insert(29, 0) to 29", x.insert(29, 0), 30);
        same("the line", line(x), THIRTY.substring(1) + "a");
        for (int at = 0; at <= 30; at++) due("insert(" + at + ", 25) to 30", x.insert(at, 25), FULL);
        // BAD ahead of FULL
        due("insert(31, 0) to 30", x.insert(31, 0), BAD);
        due("insert(-1, 0) to 30", x.insert(-1, 0), BAD);
        due("insert(0, 26) to 30", x.insert(0, 26), BAD);
        due("insert(30, -1) to 30", x.insert(30, -1), BAD);
        due("count(4)", x.count(4), 1);
        due("erase(29)", x.erase(29), 0);
        due("insert(0, 25) where there is room", x.insert(0, 25), 30);
        due("insert(0, 25)", x.insert(0, 25), FULL);
        same("the line", line(x), "z" + THIRTY.substring(1));
    }

    private static void takenOutFromAPlace() {
        BoundaryRules x = laid("r0,1;s" + THIRTY + ";");
        due("erase(30)", x.erase(30), BAD);
        due("erase(31)", x.erase(31), BAD);
        due("erase(-1)", x.erase(-1), BAD);
        for (int bad : FAR_OFF) due("erase(bad)", x.erase(bad), BAD);
        due("erase(29)", x.erase(29), 3);
        due("erase(29) at the end now", x.erase(29), BAD);
        due("erase(0)", x.erase(0), 0);
        due("erase(25)", x.erase(25), 0);
        same("the line", line(x), "bcdefghijklmnopqrstuvwxyzbc");
        BoundaryRules one = laid("r0,1;sz;");
        due("erase(1) of one", one.erase(1), BAD);
        due("erase(0) of one", one.erase(0), 25);
        due("erase(0) of none", one.erase(0), BAD);
        due("count(4)", one.count(4), 1);
    }

    private static void ofAnotherClass() {
        BoundaryRules x = laid("r0,1;");
        for (int letter = 0; letter < 26; letter++) {
            for (int kind = 1; kind <= 5; kind++) due("tell(" + letter + ", " + kind + ")", x.tell(letter, kind), kind - 1);
            due("tell(" + letter + ", 5)", x.tell(letter, 5), NO);
        }
        due("tell(0, 0)", x.tell(0, 0), 5);
        due("tell(0, 0)", x.tell(0, 0), NO);
        same("the classes", kinds(x), "0" + "5".repeat(25));
    }

    private static void noSuchClassOrLetter() {
        BoundaryRules x = laid("c5,az;r0,1;");
        for (int letter : new int[] {0, 1, 25}) {
            due("tell(" + letter + ", -1)", x.tell(letter, -1), BAD);
            due("tell(" + letter + ", 6)", x.tell(letter, 6), BAD);
            for (int bad : FAR_OFF) due("tell(" + letter + ", bad)", x.tell(letter, bad), BAD);
        }
        for (int kind = 0; kind <= 5; kind++) {
            due("tell(-1, " + kind + ")", x.tell(-1, kind), BAD);
            due("tell(26, " + kind + ")", x.tell(26, kind), BAD);
            for (int bad : FAR_OFF) due("tell(bad, " + kind + ")", x.tell(bad, kind), BAD);
        }
        due("count(4)", x.count(4), 0);
        same("the classes", kinds(x), "5" + "0".repeat(24) + "5");
    }

    private static void theLineByAnotherClass() {
        BoundaryRules x = laid(CLASSES + "r0,&12;sabz;");
        same("parted", parted(x), "ab|z");
        x.tell(25, 2);
        same("parted", parted(x), "ab|z");
        x.tell(0, 3);
        same("parted", parted(x), "a|b|z");
        x.tell(1, 1);
        same("parted", parted(x), "a|bz");
    }

    private static void ofAnotherKind() {
        for (int was = 0; was <= 3; was++) {
            for (int kind = 0; kind <= 3; kind++) {
                BoundaryRules x = laid("r0,1;r" + was + ",2;");
                due("rename(1, " + kind + ")", x.rename(1, kind), was == kind ? NO : was);
                due("rule(1, 0)", x.rule(1, 0), kind);
                due("rule(0, 0)", x.rule(0, 0), 0);
                due("count(4)", x.count(4), was == kind ? 0 : 1);
            }
        }
    }

    private static void noSuchRuleOrKind() {
        for (int rules = 1; rules <= 4; rules++) {
            BoundaryRules x = laid("r0,1;".repeat(rules));
            for (int kind = 0; kind <= 3; kind++) {
                due("rename(" + rules + ", " + kind + ")", x.rename(rules, kind), BAD);
                due("rename(-1, " + kind + ")", x.rename(-1, kind), BAD);
            }
            for (int bad : FAR_OFF) due("rename(bad, 1)", x.rename(bad, 1), BAD);
            for (int bad : FAR_OFF) due("rename(0, bad)", x.rename(0, bad), BAD);
            due("rename(0, -1)", x.rename(0, -1), BAD);
            due("rename(0, 4)", x.rename(0, 4), BAD);
            due("count(4)", x.count(4), 0);
            due("rename() of the last", x.rename(rules - 1, 3), 0);
        }
    }

    // ---- undone

    private static void eachOfTheActsIsUndone() {
        BoundaryRules x = laid(CLASSES + "r0,+1;saba;");
        x.insert(3, 25);
        due("undo() of one PUT IN at the end", x.undo(), 0);
        x.insert(0, 25);
        due("undo() of one PUT IN at 0", x.undo(), 0);
        x.erase(2);
        due("undo() of one TAKEN OUT at the end", x.undo(), 0);
        x.erase(0);
        due("undo() of one TAKEN OUT at 0", x.undo(), 0);
        x.tell(25, 5);
        due("undo() of another CLASS", x.undo(), 0);
        x.rename(0, 3);
        due("undo() of another KIND", x.undo(), 0);
        due("undo() of none", x.undo(), NO);
        same("count() of all", counts(x), "1 1 3 3 0 0 36");
        same("the line", line(x), "aba");
        due("kind(25)", x.kind(25), 0);
        due("rule(0, 0)", x.rule(0, 0), 0);
        due("machine(0)", x.machine(0), 2);
    }

    private static void undoneAtTheLinesEdges() {
        BoundaryRules x = laid("r0,1;s" + THIRTY + ";");
        x.erase(0);
        x.insert(29, 25);
        due("undo()", x.undo(), 1);
        due("count(2)", x.count(2), 29);
        due("undo()", x.undo(), 0);
        same("the line", line(x), THIRTY);
        due("insert(0, 0)", x.insert(0, 0), FULL);
        x = laid("r0,1;sz;");
        x.erase(0);
        due("undo() in no line", x.undo(), 0);
        same("the line", line(x), "z");
        x = laid("r0,1;");
        x.insert(0, 3);
        due("undo() of the only letter", x.undo(), 0);
        same("the line", line(x), "");
        same("the boundaries", bounds(x), "1");
    }

    /** Acts told in turn, of all four sorts; each act's number is in what it changes. */
    private static void act(BoundaryRules x, int i) {
        switch (i % 4) {
            case 0: x.insert(i % 3, i); break;
            case 1: x.tell(i, 1 + i % 5); break;
            case 2: x.erase(i % 5); break;
            default: x.rename(i / 4 % 2, 1 + i / 8); break;
        }
    }

    private static String changed(BoundaryRules x) {
        return line(x) + " " + kinds(x) + " " + x.rule(0, 0) + x.rule(1, 0) + " " + parted(x);
    }

    private static void theLast8CanBe() {
        for (int acts = 0; acts <= 20; acts++) {
            BoundaryRules x = laid("c1,a;r0,+1;r0,&1.;sabcdefgh;");
            BoundaryRules y = laid("c1,a;r0,+1;r0,&1.;sabcdefgh;");
            for (int i = 0; i < acts; i++) act(x, i);
            for (int i = 0; i < acts - 8; i++) act(y, i);
            int most = Math.min(acts, 8);
            due("count(4) of " + acts, x.count(4), most);
            for (int i = most - 1; i >= 0; i--) due("undo() of " + acts, x.undo(), i);
            due("undo() beyond " + most, x.undo(), NO);
            due("count(4) of none", x.count(4), 0);
            same("what is as it was " + most + " ahead of " + acts, changed(x), changed(y));
        }
    }

    private static void actsAgainBehindUndone() {
        BoundaryRules x = laid("r0,1;");
        for (int i = 0; i < 10; i++) x.insert(i, i);
        for (int i = 7; i >= 5; i--) due("undo()", x.undo(), i);
        same("the line", line(x), "abcdefg");
        for (int i = 6; i <= 8; i++) {
            x.insert(0, 25);
            due("count(4)", x.count(4), i);
        }
        x.insert(0, 24);
        due("count(4) of nine", x.count(4), 8);
        for (int i = 7; i >= 0; i--) due("undo()", x.undo(), i);
        same("the line", line(x), "abc");
        due("undo()", x.undo(), NO);
    }

    private static void refusedActsAreNotUndone() {
        BoundaryRules x = laid("c1,a;r0,+1;s" + THIRTY.substring(1) + ";");
        x.insert(0, 0);
        due("insert()", x.insert(0, 0), FULL);
        due("insert()", x.insert(31, 0), BAD);
        due("erase()", x.erase(30), BAD);
        due("tell()", x.tell(0, 1), NO);
        due("tell()", x.tell(0, 6), BAD);
        due("rename()", x.rename(0, 0), NO);
        due("rename()", x.rename(1, 0), BAD);
        due("keep()", x.keep(), 1);
        due("day()", x.day(3, 1, 0), 29);
        due("count(4)", x.count(4), 1);
        due("undo()", x.undo(), 0);
        same("the line", line(x), THIRTY.substring(1));
        due("undo()", x.undo(), NO);
        due("undo()", x.undo(), NO);
        same("the line", line(x), THIRTY.substring(1));
    }

    private static void theRules() {
        test("a sign and its PARTS", PieceEdgeTest::rowsOfEachSign);
        test("WHOLE, if nothing more must come behind that", PieceEdgeTest::wholeIfNothingMoreMustCome);
        test("FIRST are the PLACES at which it may begin", PieceEdgeTest::firstWhereItMayBegin);
        test("* and + over again, too", PieceEdgeTest::starAndPlusOverAgain);
        test("rows of 8 PLACES, 16 signs; 10 PLACES of all", PieceEdgeTest::rowsOfMostPlaces);
        test("of a ROW as told, whatever its KIND", PieceEdgeTest::asItsRowTellsOfAnyKind);
        test("Promise 6: BAD", PieceEdgeTest::rulesSuchAsThereAre);
        test("Promise 7: BAD (no such one)", PieceEdgeTest::placesSuchAsThereAre);
        test("LAID: RULES and PLACES are those of the TEXT", PieceEdgeTest::placesOfAShorterTextAreGone);
        test("Promise 8: BAD", PieceEdgeTest::lettersSuchAsThereAre);
        test("Promise 9: NONE: its end; BAD", PieceEdgeTest::theLetterBehindAPlace);
        test("Promise 9: the LINE's end by acts", PieceEdgeTest::aTakenOutLetterIsGone);
    }

    private static void theStands() {
        test("a PLACE of a CLASS takes that, one of . any", PieceEdgeTest::aPlaceOfAClassTakesThat);
        test("BEGUN by a LETTER: those FIRST of all RULES", PieceEdgeTest::begunByThoseFirstOfAllRules);
        test("ALONE, if that is none", PieceEdgeTest::aloneIfThatIsNone);
        test("those BEHIND that take its CLASS, together", PieceEdgeTest::thoseBehindTogether);
        test("the piece ends ahead of that LETTER, and one is BEGUN by it", PieceEdgeTest::theNextBegunWhereOneEnds);
        test("a SHORT RULE goes no further where it is WHOLE", PieceEdgeTest::aShortRuleWhereItIsWhole);
        test("a SHORT RULE: others go on", PieceEdgeTest::aShortRuleAlone);
        test("by CLASS 5 each PLACE of a LOOSE RULE stays", PieceEdgeTest::aLooseRuleStaysByClass5Alone);
        test("a LOOSE RULE stays over 29 LETTERS", PieceEdgeTest::aLooseRuleStaysForTheWholeLine);
        test("a RULE that is BOTH is SHORT, and LOOSE", PieceEdgeTest::bothIsShortAndLoose);
        test("Promise 17: NONE: place 0; BAD", PieceEdgeTest::theStandBehindALetter);
        test("BOUNDARIES are 0, the LINE's end", PieceEdgeTest::boundariesAt0AndAtTheEnd);
        test("Promise 15: BAD", PieceEdgeTest::aPlaceIsABoundary);
        test("Promise 16: NONE", PieceEdgeTest::theNextAndTheLastBoundary);
        test("Promise 16: BAD, ahead of NONE", PieceEdgeTest::noSuchPlaceOrWay);
        test("Promise 18: from none to 30", PieceEdgeTest::piecesFromNoneTo30);
        test("Promise 18: BAD (no such one)", PieceEdgeTest::noSuchPiece);
        test("Promise 18: RULES at its end", PieceEdgeTest::rulesAtThePiecesEnd);
    }

    private static void theActs() {
        test("Promise 10: PUT IN at a place; BAD", PieceEdgeTest::putInAtAPlace);
        test("Promise 10: 30 at most; FULL, behind BAD", PieceEdgeTest::thirtyAtMost);
        test("Promise 11: BAD (its end, too)", PieceEdgeTest::takenOutFromAPlace);
        test("Promise 12: which it was; NO: it is", PieceEdgeTest::ofAnotherClass);
        test("Promise 12: BAD", PieceEdgeTest::noSuchClassOrLetter);
        test("Promise 12: the LINE then", PieceEdgeTest::theLineByAnotherClass);
        test("Promise 13: which it was; NO: it is", PieceEdgeTest::ofAnotherKind);
        test("Promise 13: BAD", PieceEdgeTest::noSuchRuleOrKind);
        test("UNDONE is the latest of these", PieceEdgeTest::eachOfTheActsIsUndone);
        test("UNDONE in a LINE of 30, of none", PieceEdgeTest::undoneAtTheLinesEdges);
        test("UNDONE: the last 8 can be", PieceEdgeTest::theLast8CanBe);
        test("UNDONE, and acts again", PieceEdgeTest::actsAgainBehindUndone);
        test("UNDONE: refused calls are none of these", PieceEdgeTest::refusedActsAreNotUndone);
    }

    public static void main(String[] args) {
        theRules();
        theStands();
        theActs();
        end("PieceEdgeTest");
    }
}
