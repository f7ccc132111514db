/** Sentence by sentence what the document says of THE TEXT and its ITEMS (promises 1 to 8), at its edges. */
public final class TextEdgeTest extends Due {
    /** One letter less than THE TEXT holds, without FAULT. */
    private static final String TEXT_OF_199 = "r0,1;" + "c0,a;".repeat(37) + "sabcdefg;";

    private static void noFault(String... texts) {
        for (String text : texts) due("fault() of " + text, faultOf(text), NONE);
    }

    /** The item alone, behind one that is so, and with others behind it. */
    private static void notSo(String... items) {
        for (String item : items) {
            due("fault() of " + item, faultOf(item), 0);
            due("fault() of s;" + item, faultOf("s;" + item), 2);
            due("fault() of r0,1;sab;" + item + ";s;", faultOf("r0,1;sab;" + item + ";s;"), 9);
        }
    }

    /** With each letter that can be written in between (but ; in the midst): no FAULT with those, else one at the place. */
    private static void onlySo(String ahead, String behind, String those, int place) {
        for (char sign = 32; sign <= 126; sign++) {
            if (sign == ';' && !behind.isEmpty()) continue;
            String text = ahead + sign + behind;
            due("fault() of " + text, faultOf(text), those.indexOf(sign) >= 0 ? NONE : place);
        }
    }

    // ---- a new object

    private static void asTold() {
        BoundaryRules x = new BoundaryRules();
        same("count() of all", counts(x), "4 9 17 7 0 0 0");
        same("the line", line(x), "baqbxyzaqqebcxqzz");
        same("the classes", kinds(x), "12221220100000105000100333");
        String ruleWants = "";
        for (int r = 0; r < 4; r++) {
            for (int what = 0; what < 4; what++) ruleWants += x.rule(r, what) + " ";
        }
        same("the rules", ruleWants, "0 3 1 3 1 28 4 28 2 224 32 128 0 256 256 256 ");
        String placeWants = "";
        for (int p = 0; p < 9; p++) placeWants += x.place(p, 0) + ":" + x.place(p, 1) + " ";
        same("the places", placeWants, "2:3 1:0 1:24 1:24 2:24 3:64 6:128 3:0 3:256 ");
        same("the pieces", parted(x), "ba|q|b|xyz|aqqebc|xqz|z");
    }

    private static void asToldIsWhatItsTextLays() {
        BoundaryRules x = new BoundaryRules();
        BoundaryRules y = laid("c1,aeiou;c2,bcdfg;c3,xyz;c5,q;r0,&+2?1;r1,&1*|12;r2,&3&.3;r0,+3;sbaqbxyzaqqebcxqzz;");
        due("wipe()", y.wipe(), 83);
        same("the stands", stands(y), stands(x));
        same("machine() of all", machines(y), machines(x));
        same("count() of all", counts(y), counts(x));
    }

    private static void aNewTextIsEmpty() {
        due("fault()", new BoundaryRules().fault(), NONE);
        due("wipe()", new BoundaryRules().wipe(), 0);
        due("lay()", new BoundaryRules().lay(), NO);
        due("write(32)", new BoundaryRules().write(32), 1);
    }

    // ---- the text

    private static void lettersFrom32To126() {
        BoundaryRules x = new BoundaryRules();
        for (int letter = 32; letter <= 126; letter++) due("write(" + letter + ")", x.write(letter), letter - 31);
        for (int letter : new int[] {31, 127, 0, -1, 32 - 256, 97 + 256, 97 + 65536, LEAST_INT, GREATEST_INT}) {
            due("write(" + letter + ")", x.write(letter), BAD);
        }
        due("count(6)", x.count(6), 95);
    }

    private static void textOf200AtMost() {
        BoundaryRules x = new BoundaryRules();
        for (int i = 1; i <= 200; i++) due("write(i)", x.write('a'), i);
        due("write() beyond 200", x.write('a'), FULL);
        due("write() beyond 200 again", x.write(126), FULL);
        due("count(6)", x.count(6), 200);
        due("wipe()", x.wipe(), 200);
        due("write() of the wiped", x.write('a'), 1);
    }

    private static void badAheadOfFull() {
        BoundaryRules x = put(new BoundaryRules(), " ".repeat(200));
        for (int letter : new int[] {31, 127, -1}) due("write(" + letter + ") to 200", x.write(letter), BAD);
        due("count(6)", x.count(6), 200);
    }

    private static void textOf200Whole() {
        BoundaryRules x = laid("r0,1;" + "c0,a;".repeat(38) + "c5,z;");
        due("count(6)", x.count(6), 200);
        due("kind(25), told by the last five letters", x.kind(25), 5);
        due("fault() at the last letter", faultOf(TEXT_OF_199 + ";"), 199);
        due("fault() of 199 letters", faultOf(TEXT_OF_199), NONE);
        due("fault() of an item that room ends", faultOf(TEXT_OF_199.substring(0, 190) + "sabcdefghi"), 190);
    }

    private static void writtenBeyond200IsNotInTheText() {
        BoundaryRules x = put(new BoundaryRules(), TEXT_OF_199 + "s;");
        due("count(6)", x.count(6), 200);
        due("fault()", x.fault(), 199);
        due("lay()", x.lay(), NO);
    }

    private static void wiped() {
        BoundaryRules x = new BoundaryRules();
        due("wipe() of none", x.wipe(), 0);
        x.write('r');
        due("wipe() of one", x.wipe(), 1);
        due("wipe() again", x.wipe(), 0);
        put(x, "x;");
        due("fault()", x.fault(), 0);
        x.wipe();
        due("fault() of the wiped", x.fault(), NONE);
        same("all but the text", counts(x), "4 9 17 7 0 0 0");
    }

    private static void wipeLeavesWhatIsLaid() {
        BoundaryRules x = laid("c1,a;r3,+1;saab;");
        x.insert(0, 3);
        x.keep();
        x.wipe();
        same("count() of all", counts(x), "1 1 4 4 1 1 0");
        due("rule(0, 0)", x.rule(0, 0), 3);
        due("kind(0)", x.kind(0), 1);
    }

    // ---- items

    private static void eachALetterThatTells() {
        onlySo("", ";", "s", 0);
        onlySo("", "1,a;", "c", 0);
        onlySo("", "1,1;", "r", 0);
        onlySo("sab;", ";", "s", 4);
        notSo(";", " s;", "s ;", "x;", "C1,a;", "R0,1;", "S;", "1,a;", ",;");
    }

    private static void partedByAComma() {
        onlySo("c1", "a;", ",", 0);
        onlySo("r1", "1;", ",", 0);
        notSo("c1;", "c1a;", "c1,,a;", "c1 ,a;", "c1, a;", "c,a;", "c;", "r0;", "r01;", "r0,,1;", "r,1;", "r;", "s,;", "s,a;");
    }

    private static void aSemicolonBehind() {
        onlySo("sa", "", ";", 0);
        onlySo("c1,a", "", ";", 0);
        onlySo("r0,1", "", ";", 0);
        for (String open : new String[] {"c", "c1", "c1,", "c1,a", "r", "r0", "r0,", "r0,1", "s", "sab"}) {
            due("fault() of " + open, faultOf(open), 0);
            due("fault() of r0,1;" + open, faultOf("r0,1;" + open), 5);
        }
        due("fault() of s;;", faultOf("s;;"), 2);
        noFault("", "s;", "s;s;", "s;r0,1;c1,a;");
    }

    private static void figuresAreOne() {
        notSo("c11,a;", "c01,a;", "c1,1;", "r00,1;", "r01,1;", "c-1,a;", "r+1,1;", "c1.,a;");
    }

    // ---- classes

    private static void classes0To5() {
        onlySo("c", ",a;", "012345", 0);
        for (int x = 0; x <= 5; x++) due("kind(0)", laid("r0,1;c" + x + ",a;").kind(0), x);
        notSo("c6,a;", "c9,a;", "c/,a;", "c:,a;");
    }

    private static void lettersAToZ() {
        onlySo("c1,", ";", ALPHABET, 0);
        onlySo("c1,a", ";", ALPHABET, 0);
        for (int i = 0; i < 26; i++) {
            BoundaryRules x = laid("r0,1;c3," + ALPHABET.charAt(i) + ";");
            same("the classes", kinds(x), "0".repeat(i) + "3" + "0".repeat(25 - i));
        }
    }

    private static void rowsOf1To26Letters() {
        notSo("c1,;", "c1," + ALPHABET + "a;", "c1," + "z".repeat(27) + ";");
        noFault("c1,a;", "c1,zz;", "c1," + ALPHABET.substring(1) + ";", "c1," + ALPHABET + ";", "c1," + "z".repeat(26) + ";");
        same("the classes", kinds(laid("r0,1;c4," + ALPHABET + ";")), "4".repeat(26));
    }

    private static void class0WithoutAnItem() {
        same("the classes", kinds(laid("r0,1;")), "0".repeat(26));
        same("the classes told ahead", kinds(laid("r0,1;c2,b;")), "02" + "0".repeat(24));
        BoundaryRules x = laid("c5," + ALPHABET + ";r0,1;");
        put(x, "r0,1;c1,z;").lay();
        same("the classes laid anew", kinds(x), "0".repeat(25) + "1");
    }

    private static void theLastClassToldOfEach() {
        same("the classes", kinds(laid("c1,abc;r0,1;c2,bcd;c0,c;c3,d;")), "1203" + "0".repeat(22));
        same("the classes", kinds(laid("r0,1;c5,z;c4,z;")), "0".repeat(25) + "4");
    }

    // ---- rules

    private static void kinds0To3() {
        onlySo("r", ",1;", "0123", 0);
        for (int kind = 0; kind <= 3; kind++) due("rule(0, 0)", laid("r" + kind + ",1;").rule(0, 0), kind);
        BoundaryRules x = laid("r3,1;r2,1;r1,1;r0,1;");
        for (int r = 0; r < 4; r++) due("rule(" + r + ", 0)", x.rule(r, 0), 3 - r);
        notSo("r4,1;", "r9,1;", "r/,1;", "r:,1;");
    }

    private static void aSignOfNoParts() {
        onlySo("r0,", ";", "012345.", 0);
        onlySo("r0,1", ";", "", 0);
        notSo("r0,11;", "r0,..;", "r0,1.;", "r0,01;", "r0,1*;", "r0,6;", "r0,/;", "r0,-;", "r0,a;");
    }

    private static void aSignOfOnePart() {
        onlySo("r0,", "1;", "*+?", 0);
        onlySo("r0,", "*1;", "*+?", 0);
        for (String sign : new String[] {"*", "+", "?"}) {
            notSo("r0," + sign + ";", "r0," + sign + "12;", "r0,1" + sign + ";", "r0," + sign + sign + ";");
            noFault("r0," + sign + "1;", "r0," + sign + sign + ".;", "r0," + sign + "&12;", "r0," + sign + "|12;");
        }
    }

    private static void aSignOfTwoParts() {
        onlySo("r0,", "12;", "&|", 0);
        onlySo("r0,", "*12;", "&|", 0);
        for (String sign : new String[] {"&", "|"}) {
            notSo("r0," + sign + ";", "r0," + sign + "1;", "r0," + sign + "123;", "r0,1" + sign + "2;", "r0,12" + sign + ";",
                "r0," + sign + "*1;", "r0," + sign + sign + "12;");
            noFault("r0," + sign + "12;", "r0," + sign + sign + "123;", "r0," + sign + "1" + sign + "23;", "r0," + sign + "*1?2;");
        }
    }

    private static void rowsOf1To16Signs() {
        notSo("r0,;", "r0," + "?".repeat(16) + "1;", "r0,??&.&.&.&.&.&.&..;", "r0,&.&.&.&.&.&.&.&..;", "r0," + "*".repeat(60) + ".;");
        noFault("r0,1;", "r0," + "?".repeat(14) + "1;", "r0," + "?".repeat(15) + "1;", "r0,&.&.&.&.&.&.&..;", "r0,?&.&.&.&.&.&.&..;",
            "r0,+|||||||0123450.;", "r0,&&&&&&&1234501*2;");
        BoundaryRules x = laid("r0,+" + "?".repeat(14) + "1;");
        due("place(0, 1) of a row of 16 signs", x.place(0, 1), 1);
        due("rule(0, 1) of a row of 16 signs with 8 places", laid("r0,&.&.&.&.&.&.&.+.;").rule(0, 1), 255);
    }

    private static void fourRulesAtMost() {
        due("lay() of one", laid("r0,1;").lay(), 1);
        due("lay() of three", laid("r0,1;r0,1;r0,1;").lay(), 3);
        BoundaryRules x = laid("r0,1;r1,2;r2,3;r3,4;");
        due("lay() of four", x.lay(), 4);
        due("count(0)", x.count(0), 4);
        due("place(3, 0)", x.place(3, 0), 4);
        due("fault() of five", faultOf("r0,1;r0,1;r0,1;r0,1;r0,1;"), 20);
        due("fault() of five and more", faultOf("r0,1;r0,1;r0,1;sa;r0,1;c1,a;r0,1;r0,1;"), 28);
        due("fault() of five, the last not so", faultOf("r0,1;r0,1;r0,1;r0,1;r0;"), 20);
    }

    private static void tenPlacesAtMost() {
        String eight = "r0,&.&.&.&.&.&.&..;";
        noFault(eight, eight + "r0,&12;", eight + "r0,1;r0,*2;", "r0,&1&2&34;r0,|1|2|3|4|5.;", "r0,&1&23;r0,&1&23;r0,&1&23;r0,1;",
            eight + "r0," + "*".repeat(15) + "1;r0,1;");
        due("fault() of 8 and 3", faultOf(eight + "r0,&1&23;"), 19);
        due("fault() of 8, 2 and 1", faultOf(eight + "r0,&12;r0,1;"), 26);
        due("fault() of 8, 2, a line and 1", faultOf(eight + "r0,&12;sa;r0,1;"), 29);
        due("fault() of 8, 3 and 2", faultOf(eight + "r0,|1|23;r0,12;"), 19);
        due("fault() of 3, 3, 3 and 2", faultOf("r0,&1&23;r0,&1&23;r0,&1&23;r0,|12;"), 27);
        due("fault() of 5, 5 and 5", faultOf("r0,&.&.&.&..;r0,&.&.&.&..;r0,&.&.&.&..;"), 26);
        BoundaryRules x = laid(eight + "r0,&45;");
        due("count(1)", x.count(1), 10);
        due("place(9, 0)", x.place(9, 0), 5);
        due("place(10, 0)", x.place(10, 0), BAD);
        due("rule(1, 1)", x.rule(1, 1), 256 + 512);
    }

    private static void placesAsTheyAreTold() {
        BoundaryRules x = laid("r0,|&50*4;c1,a;r0,?&.3;");
        int[] takes = {5, 0, 4, 6, 3};
        for (int p = 0; p < takes.length; p++) due("place(" + p + ", 0)", x.place(p, 0), takes[p]);
        due("place(5, 0)", x.place(5, 0), BAD);
        due("place(-1, 0)", x.place(-1, 0), BAD);
    }

    // ---- the line

    private static void lineOf0To30Letters() {
        noFault("s;", "sa;", "s" + THIRTY.substring(1) + ";", "s" + THIRTY + ";");
        notSo("s" + THIRTY + "a;", "s" + "z".repeat(100) + ";");
        same("the line of 30", line(laid("r0,1;s" + THIRTY + ";")), THIRTY);
        same("the line of 1", line(laid("r0,1;sz;")), "z");
        same("the line of 0", line(laid("r0,1;s;")), "");
        onlySo("s", ";", ALPHABET, 0);
    }

    private static void noLineWithoutAnItem() {
        BoundaryRules x = new BoundaryRules();
        put(x, "r0,1;").lay();
        due("count(2)", x.count(2), 0);
        due("letter(0)", x.letter(0), NONE);
        due("count(3)", x.count(3), 0);
    }

    private static void theLastLineTold() {
        same("the line", line(laid("sabc;r0,1;sz;")), "z");
        same("the line", line(laid("sz;sabc;r0,1;")), "abc");
        same("the line", line(laid("r0,1;sabc;s;")), "");
    }

    // ---- fault

    private static void theFirstThatIsNotSo() {
        due("fault()", faultOf("x;y;"), 0);
        due("fault()", faultOf("s;y;x;"), 2);
        due("fault()", faultOf("c1,a;r0,1;sa;c6,a;s1;"), 13);
        due("fault()", faultOf("c1,a;r0,&1;sa;r0,;"), 5);
        due("fault()", faultOf("c1,a;r0,1;sa;c1,a"), 13);
    }

    private static void faultChangesNothing() {
        BoundaryRules x = put(new BoundaryRules(), "r0,1;r0,1;r0,1;r0,1;c1,a;sab;");
        for (int time = 0; time < 3; time++) due("fault()", x.fault(), NONE);
        same("count() of all", counts(x), "4 9 17 7 0 0 29");
        due("lay()", x.lay(), 4);
        due("fault() of what is laid", x.fault(), NONE);
        same("count() of all", counts(x), "4 4 2 2 0 0 29");
        x.write('r');
        due("fault() of an item that is open", x.fault(), 29);
        due("lay()", x.lay(), NO);
    }

    // ---- lay

    private static void noneIsLaidWithoutARule() {
        for (String text : new String[] {"", "s;", "sab;", "c1,a;", "c1,a;sa;c2,b;"}) {
            BoundaryRules x = put(new BoundaryRules(), text);
            due("fault() of " + text, x.fault(), NONE);
            due("lay() of " + text, x.lay(), NO);
            same("all but the text", counts(x), "4 9 17 7 0 0 " + text.length());
        }
    }

    private static void noneIsLaidWithAFault() {
        for (String text : new String[] {"x", ";", "r0,1", "r0,1;x", "r0,1;;", "c6,a;r0,1;", "r0,1;sa", "r0,1;r0,1;r0,1;r0,1;r0,1;"}) {
            BoundaryRules x = put(new BoundaryRules(), text);
            due("lay() of " + text, x.lay(), NO);
            same("all but the text", counts(x), "4 9 17 7 0 0 " + text.length());
            same("the classes", kinds(x), "12221220100000105000100333");
            same("the line", line(x), "baqbxyzaqqebcxqzz");
        }
    }

    private static void nothingIsUndoneOrKeptByLay() {
        BoundaryRules x = laid("c1,a;r0,+1;saab;");
        x.insert(0, 1);
        x.rename(0, 2);
        x.keep();
        x.keep();
        due("lay()", x.lay(), 1);
        same("count() of all", counts(x), "1 1 3 2 0 0 16");
        due("undo()", x.undo(), NO);
        due("restore()", x.restore(), NO);
        due("rule(0, 0)", x.rule(0, 0), 0);
        due("keep()", x.keep(), 1);
    }

    private static void theTextStaysByLay() {
        BoundaryRules x = laid("r0,1;");
        due("count(6)", x.count(6), 5);
        due("write()", x.write('s'), 6);
        due("lay() of an item that is open", x.lay(), NO);
        due("write()", x.write(';'), 7);
        due("lay()", x.lay(), 1);
        due("wipe()", x.wipe(), 7);
        due("count(0)", x.count(0), 1);
    }

    public static void main(String[] args) {
        test("Promise 1: as told", TextEdgeTest::asTold);
        test("at first (the text that is told)", TextEdgeTest::asToldIsWhatItsTextLays);
        test("Promise 1: THE TEXT is empty", TextEdgeTest::aNewTextIsEmpty);
        test("A letter (32 to 126, as in ASCII)", TextEdgeTest::lettersFrom32To126);
        test("A TEXT is letters (200 at most)", TextEdgeTest::textOf200AtMost);
        test("BAD ahead of FULL, whatever the order", TextEdgeTest::badAheadOfFull);
        test("A TEXT of 200 letters is read to its end", TextEdgeTest::textOf200Whole);
        test("FULL: nothing changes then", TextEdgeTest::writtenBeyond200IsNotInTheText);
        test("Promise 3: THE TEXT is empty: how long it was", TextEdgeTest::wiped);
        test("Promise 3: nothing else is wiped", TextEdgeTest::wipeLeavesWhatIsLaid);
        test("ITEMS, each a letter, then what it tells", TextEdgeTest::eachALetterThatTells);
        test("parted by ,", TextEdgeTest::partedByAComma);
        test("a ; behind it", TextEdgeTest::aSemicolonBehind);
        test("all figures one", TextEdgeTest::figuresAreOne);
        test("CLASS X (0 to 5)", TextEdgeTest::classes0To5);
        test("LETTERS are a to z", TextEdgeTest::lettersAToZ);
        test("LETTERS S (a row of 1 to 26)", TextEdgeTest::rowsOf1To26Letters);
        test("0 without", TextEdgeTest::class0WithoutAnItem);
        test("the last told of each", TextEdgeTest::theLastClassToldOfEach);
        test("KIND K (0 PLAIN, 1 LOOSE, 2 SHORT, 3 BOTH)", TextEdgeTest::kinds0To3);
        test("0 to 5 that CLASS; . any", TextEdgeTest::aSignOfNoParts);
        test("* one, + one, ? one", TextEdgeTest::aSignOfOnePart);
        test("& two PARTS, | two", TextEdgeTest::aSignOfTwoParts);
        test("1 to 16 signs", TextEdgeTest::rowsOf1To16Signs);
        test("4 RULES at most", TextEdgeTest::fourRulesAtMost);
        test("CLASSES and . of all RULES together are 10 at most", TextEdgeTest::tenPlacesAtMost);
        test("PLACES 0, 1, .. as they are told", TextEdgeTest::placesAsTheyAreTold);
        test("the LINE is L (0 to 30 LETTERS)", TextEdgeTest::lineOf0To30Letters);
        test("none without", TextEdgeTest::noLineWithoutAnItem);
        test("the last one told", TextEdgeTest::theLastLineTold);
        test("FAULT: the first ITEM that is not so", TextEdgeTest::theFirstThatIsNotSo);
        test("Promise 4: FAULT, and no more", TextEdgeTest::faultChangesNothing);
        test("LAID: of a RULE at least (NO else)", TextEdgeTest::noneIsLaidWithoutARule);
        test("LAID: a TEXT without FAULT (NO else)", TextEdgeTest::noneIsLaidWithAFault);
        test("LAID: nothing UNDONE, KEPT", TextEdgeTest::nothingIsUndoneOrKeptByLay);
        test("LAID: THE TEXT stays", TextEdgeTest::theTextStaysByLay);
        end("TextEdgeTest");
    }
}
