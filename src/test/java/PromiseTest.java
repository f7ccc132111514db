/** For each promise what it says, at ordinary numbers, at its edges and at wrong ones; worked out by hand. */
public final class PromiseTest extends Due {
    private static final int[] WRONG = {-1, LEAST_INT, GREATEST_INT};

    private static void faultDue(String text, int want) {
        due("fault() of " + text, faultOf(text), want);
    }

    private static void newObject() {
        BoundaryRules x = new BoundaryRules();
        same("the line", line(x), "baqbxyzaqqebcxqzz");
        int[] counts = {4, 9, 17, 7, 0, 0, 0};
        for (int what = 0; what < counts.length; what++) due("count(" + what + ")", x.count(what), counts[what]);
        int[] kinds = {1, 2, 2, 2, 1, 2, 2, 0, 1, 0, 0, 0, 0, 0, 1, 0, 5, 0, 0, 0, 1, 0, 0, 3, 3, 3};
        for (int i = 0; i < 26; i++) due("kind(" + i + ")", x.kind(i), kinds[i]);
        int[] ruleKinds = {0, 1, 2, 0};
        for (int r = 0; r < 4; r++) due("rule(" + r + ", 0)", x.rule(r, 0), ruleKinds[r]);
        due("fault()", x.fault(), NONE);
        due("lay()", x.lay(), NO);
        due("undo()", x.undo(), NO);
        due("restore()", x.restore(), NO);
    }

    private static void write() {
        BoundaryRules x = new BoundaryRules();
        due("write(31)", x.write(31), BAD);
        due("write(127)", x.write(127), BAD);
        for (int bad : WRONG) due("write", x.write(bad), BAD);
        due("count(6)", x.count(6), 0);
        due("write(32)", x.write(32), 1);
        due("write(126)", x.write(126), 2);
        for (int i = 3; i <= 200; i++) due("write(65)", x.write(65), i);
        due("write(65)", x.write(65), FULL);
        due("write(31)", x.write(31), BAD);
        due("count(6)", x.count(6), 200);
    }

    private static void wipe() {
        BoundaryRules x = put(new BoundaryRules(), "c1,a;");
        due("wipe()", x.wipe(), 5);
        due("wipe()", x.wipe(), 0);
        due("count(6)", x.count(6), 0);
        due("write(97)", x.write(97), 1);
        due("count(2)", x.count(2), 17);
    }

    private static void fault() {
        String letters = ALPHABET;
        for (String good : new String[] {"", "s;", "c0,a;", "c5,z;", "c1,aa;", "c1," + letters + ";", "r0,0;", "r3,5;",
            "r0,.;", "s" + letters + "abcd;", "sa;s;sb;", "r0,&.&.&.&.&.&.&..;", "r0,***************1;",
            "r0,|1&2?3;", "r0,1;r1,1;r2,1;r3,1;", "r0,&.&.&.&..;r0,&.&.&.&..;", "sz;c1,a;r0,1;", "r0,1;c1,a;r0,2;"}) {
            faultDue(good, NONE);
        }
        for (String bad : new String[] {" ", ";", "c", "s", "sa", "r0,1", "c1,a", "c6,a;", "c1,;", "c1a;", "c,a;", "ca,a;", "c1,A;",
            "c1,{;", "c1,`;", "c11,a;", "c1,a ;", "c1,a,b;", "c1," + letters + "a;", "s" + letters + "abcde;", "s1;", "s,;", "sA;",
            "r4,1;", "r0,;", "r0;", "r,1;", "r01;", "r0,6;", "r0,/;", "r0,&1;", "r0,&;", "r0,11;", "r0,1*;", "r0,*;", "r0,|12 ;",
            "r0,&123;", "r0,a;", "r0,****************1;", "x0,1;", "C1,a;", "r0,&.&.&.&.&.&.&.&..;", "c1,a"}) {
            faultDue(bad, 0);
            faultDue("sab;" + bad, 4);
            faultDue("sab;c1,q;" + bad + "c9,;", 9);
        }
        faultDue("c1,a;;", 5);
        faultDue("r0,1;r0,1;r0,1;r0,1;r0,1;", 20);
        faultDue("r0,1;r0,1;r0,1;r0,1;sa;r0,1;sb;", 23);
        faultDue("r0,&.&.&.&..;r0,&.&.&.&..;r0,1;", 26);
        faultDue("r0,&.&.&.&..;r0,&.&.&.&.&..;sa;", 13);
        due("a second fault()", put(new BoundaryRules(), "r0,&.&.&.&..;").fault(), NONE);
        BoundaryRules x = put(new BoundaryRules(), "r0,1;r0,1;r0,1;r0,1;");
        due("fault()", x.fault(), NONE);
        due("fault() again", x.fault(), NONE);
    }

    private static void lay() {
        BoundaryRules x = new BoundaryRules();
        x.insert(0, 0);
        x.keep();
        for (String no : new String[] {"", "sab;", "c1,a;", "r0,1;x", "r0,1"}) due("lay() of " + no, put(x, no).lay(), NO);
        due("count(0) behind NO", x.count(0), 4);
        due("count(4) behind NO", x.count(4), 1);
        due("count(5) behind NO", x.count(5), 1);
        same("the line behind NO", line(x), "abaqbxyzaqqebcxqzz");
        due("lay()", put(x, "sxyz;c2,ab;r1,&1.;c3,b;sab;r2,2;").lay(), 2);
        int[] counts = {2, 3, 2, 2, 0, 0, 32};
        for (int what = 0; what < counts.length; what++) due("count(" + what + ")", x.count(what), counts[what]);
        due("kind(0)", x.kind(0), 2);
        due("kind(1)", x.kind(1), 3);
        due("kind(16)", x.kind(16), 0);
        same("the line", line(x), "ab");
        due("undo()", x.undo(), NO);
        due("restore()", x.restore(), NO);
        x.rename(0, 3);
        x.insert(0, 4);
        due("lay() again", x.lay(), 2);
        due("rule(0, 0)", x.rule(0, 0), 1);
        due("count(2)", x.count(2), 2);
        due("lay() without a line", put(x, "r0,1;").lay(), 1);
        due("count(2)", x.count(2), 0);
    }

    private static void rule() {
        BoundaryRules x = laid("r3,&?1*2;r1,+|&34?5;r0,&1?2;r2,.;");
        int[][] want = {{3, 3, 3, 3}, {1, 4 + 8 + 16, 4 + 16, 8 + 16}, {0, 32 + 64, 32, 32 + 64}, {2, 128, 128, 128}};
        for (int r = 0; r < 4; r++) {
            for (int what = 0; what < 4; what++) due("rule(" + r + ", " + what + ")", x.rule(r, what), want[r][what]);
        }
        x.rename(0, 0);
        due("rule(0, 0)", x.rule(0, 0), 0);
        due("rule(0, 3)", x.rule(0, 3), 3);
        due("rule(4, 0)", x.rule(4, 0), BAD);
        due("rule(0, 4)", x.rule(0, 4), BAD);
        for (int bad : WRONG) due("rule(bad, 0)", x.rule(bad, 0), BAD);
        for (int bad : WRONG) due("rule(0, bad)", x.rule(0, bad), BAD);
        due("rule(1, 0) of one", laid("r0,1;").rule(1, 0), BAD);
        // a part may lack where both of & do, or one of |, or what + is of
        due("rule(0, 2)", laid("r0,&&?1?23;").rule(0, 2), 7);
        due("rule(0, 2)", laid("r0,&&?123;").rule(0, 2), 3);
        due("rule(0, 2)", laid("r0,&|?123;").rule(0, 2), 7);
        due("rule(0, 2)", laid("r0,&+?12;").rule(0, 2), 3);
        due("rule(0, 2)", laid("r0,&+12;").rule(0, 2), 1);
        due("rule(0, 3)", laid("r0,&1&2*3;").rule(0, 3), 6);
        due("rule(0, 3)", laid("r0,&1&?2*3;").rule(0, 3), 7);
    }

    private static void place() {
        BoundaryRules x = laid("r2,&+2?1;r1,&*&1.3;r0,&5|&02?.;");
        int[] takes = {2, 1, 1, 6, 3, 5, 0, 2, 6};
        // of + and of * over again, whatever the kind is
        int[] behind = {3, 0, 8, 4 + 16, 0, 64 + 256, 128, 0, 0};
        for (int p = 0; p < 9; p++) {
            due("place(" + p + ", 0)", x.place(p, 0), takes[p]);
            due("place(" + p + ", 1)", x.place(p, 1), behind[p]);
        }
        due("place(9, 0)", x.place(9, 0), BAD);
        due("place(0, 2)", x.place(0, 2), BAD);
        for (int bad : WRONG) due("place(bad, 0)", x.place(bad, 0), BAD);
        for (int bad : WRONG) due("place(0, bad)", x.place(0, bad), BAD);
        due("place(9, 1) of ten", laid("r0,&.&.&.&..;r0,&.&.&.&.+4;").place(9, 1), 512);
        due("place(0, 1) of ?", laid("r0,?1;").place(0, 1), 0);
        due("place(0, 1) of +?", laid("r0,+?1;").place(0, 1), 1);
    }

    private static void kind() {
        BoundaryRules x = laid("r0,1;c4,abz;c2,b;");
        due("kind(0)", x.kind(0), 4);
        due("kind(1)", x.kind(1), 2);
        due("kind(2)", x.kind(2), 0);
        due("kind(25)", x.kind(25), 4);
        due("kind(26)", x.kind(26), BAD);
        for (int bad : WRONG) due("kind(bad)", x.kind(bad), BAD);
    }

    private static void letter() {
        BoundaryRules x = laid("r0,1;saz;");
        due("letter(0)", x.letter(0), 0);
        due("letter(1)", x.letter(1), 25);
        due("letter(2)", x.letter(2), NONE);
        due("letter(3)", x.letter(3), BAD);
        for (int bad : WRONG) due("letter(bad)", x.letter(bad), BAD);
        due("letter(0) of none", laid("r0,1;").letter(0), NONE);
        due("letter(1) of none", laid("r0,1;").letter(1), BAD);
    }

    private static void insert() {
        BoundaryRules x = laid("r0,1;");
        due("insert(1, 0)", x.insert(1, 0), BAD);
        due("insert(0, 26)", x.insert(0, 26), BAD);
        for (int bad : WRONG) due("insert(bad, 0)", x.insert(bad, 0), BAD);
        for (int bad : WRONG) due("insert(0, bad)", x.insert(0, bad), BAD);
        due("count(4)", x.count(4), 0);
        due("insert(0, 1)", x.insert(0, 1), 1);
        due("insert(0, 0)", x.insert(0, 0), 2);
        due("insert(2, 25)", x.insert(2, 25), 3);
        due("insert(1, 3)", x.insert(1, 3), 4);
        same("the line", line(x), "adbz");
        for (int i = 5; i <= 30; i++) due("insert(4, 4)", x.insert(4, 4), i);
        due("insert(0, 0)", x.insert(0, 0), FULL);
        due("insert(31, 0)", x.insert(31, 0), BAD);
        due("insert(0, 26)", x.insert(0, 26), BAD);
        due("count(2)", x.count(2), 30);
        due("letter(4)", x.letter(4), 4);
    }

    private static void erase() {
        BoundaryRules x = laid("r0,1;sabcd;");
        due("erase(4)", x.erase(4), BAD);
        for (int bad : WRONG) due("erase(bad)", x.erase(bad), BAD);
        due("count(4)", x.count(4), 0);
        due("erase(1)", x.erase(1), 1);
        due("erase(2)", x.erase(2), 3);
        due("erase(0)", x.erase(0), 0);
        same("the line", line(x), "c");
        due("erase(0)", x.erase(0), 2);
        due("erase(0)", x.erase(0), BAD);
        due("count(4)", x.count(4), 4);
    }

    private static void tell() {
        BoundaryRules x = laid("c1,a;r0,+1;saa;");
        same("the boundaries", bounds(x), "101");
        due("tell(0, 1)", x.tell(0, 1), NO);
        due("tell(0, 6)", x.tell(0, 6), BAD);
        due("tell(26, 0)", x.tell(26, 0), BAD);
        for (int bad : WRONG) due("tell(bad, 0)", x.tell(bad, 0), BAD);
        for (int bad : WRONG) due("tell(0, bad)", x.tell(0, bad), BAD);
        due("count(4)", x.count(4), 0);
        due("tell(0, 5)", x.tell(0, 5), 1);
        due("tell(25, 0)", x.tell(25, 0), NO);
        due("tell(25, 2)", x.tell(25, 2), 0);
        due("kind(0)", x.kind(0), 5);
        same("the boundaries", bounds(x), "111");
        due("count(4)", x.count(4), 2);
    }

    private static void rename() {
        BoundaryRules x = laid("c1,a;c5,q;r0,+1;saaqa;");
        same("plain", bounds(x), "10111");
        due("rename(0, 0)", x.rename(0, 0), NO);
        due("rename(1, 0)", x.rename(1, 0), BAD);
        due("rename(0, 4)", x.rename(0, 4), BAD);
        for (int bad : WRONG) due("rename(bad, 0)", x.rename(bad, 0), BAD);
        for (int bad : WRONG) due("rename(0, bad)", x.rename(0, bad), BAD);
        due("count(4)", x.count(4), 0);
        due("rename(0, 1)", x.rename(0, 1), 0);
        same("loose", bounds(x), "10001");
        due("rename(0, 2)", x.rename(0, 2), 1);
        same("short", bounds(x), "11111");
        due("rename(0, 3)", x.rename(0, 3), 2);
        same("both", bounds(x), "11011");
        due("rename(0, 3)", x.rename(0, 3), NO);
        due("count(4)", x.count(4), 3);
    }

    private static void undo() {
        BoundaryRules x = laid("c1,a;r0,+1;saba;");
        x.insert(1, 0);
        x.erase(2);
        x.tell(0, 2);
        x.rename(0, 2);
        same("the line", line(x), "aaa");
        due("undo()", x.undo(), 3);
        due("rule(0, 0)", x.rule(0, 0), 0);
        due("undo()", x.undo(), 2);
        due("kind(0)", x.kind(0), 1);
        same("the boundaries", bounds(x), "1001");
        due("undo()", x.undo(), 1);
        same("the line", line(x), "aaba");
        same("the boundaries", bounds(x), "10111");
        due("undo()", x.undo(), 0);
        same("the line", line(x), "aba");
        due("undo()", x.undo(), NO);
        for (int i = 0; i < 3; i++) x.insert(i, i);
        // eight acts of three sorts, so that the three ahead of them are beyond what can be undone
        for (int i = 3; i < 9; i++) x.insert(i % 4, i + 10);
        x.erase(7);
        x.rename(0, 3);
        due("count(4)", x.count(4), 8);
        for (int i = 7; i >= 0; i--) due("undo()", x.undo(), i);
        due("undo()", x.undo(), NO);
        same("the line", line(x), "abcaba");
        due("rule(0, 0)", x.rule(0, 0), 0);
        x.rename(0, 1);
        due("machine(0)", x.machine(0), 2);
        x.undo();
        due("alike(0, 5)", x.alike(0, 5), 1);
    }

    private static void isBoundary() {
        BoundaryRules x = laid("c1,a;c2,b;r0,&12;sababba;");
        same("the boundaries", bounds(x), "1010111");
        due("isBoundary(7)", x.isBoundary(7), BAD);
        for (int bad : WRONG) due("isBoundary(bad)", x.isBoundary(bad), BAD);
        same("of no letter", bounds(laid("r0,1;")), "1");
        // the longest a line may be
        same("of thirty", bounds(laid("r0,+.;sabcdefghijklmnopqrstuvwxyzabcd;")), "1000000000000000000000000000001");
    }

    private static void boundary() {
        BoundaryRules x = laid("c1,a;c2,b;r0,&12;sababba;");
        int[] behind = {2, 2, 4, 4, 5, 6, NONE};
        int[] ahead = {NONE, 0, 0, 2, 2, 4, 5};
        for (int at = 0; at <= 6; at++) {
            due("boundary(" + at + ", 0)", x.boundary(at, 0), behind[at]);
            due("boundary(" + at + ", 1)", x.boundary(at, 1), ahead[at]);
        }
        due("boundary(7, 0)", x.boundary(7, 0), BAD);
        due("boundary(0, 2)", x.boundary(0, 2), BAD);
        due("boundary(6, 2)", x.boundary(6, 2), BAD);
        for (int bad : WRONG) due("boundary(bad, 0)", x.boundary(bad, 0), BAD);
        for (int bad : WRONG) due("boundary(0, bad)", x.boundary(0, bad), BAD);
        due("boundary(0, 1) of none", laid("r0,1;").boundary(0, 1), NONE);
    }

    private static void stand() {
        BoundaryRules x = laid("c1,a;c2,b;c5,q;r0,&1+2;r1,&1&.1;sabbqacaq;");
        // a: 0 and 2; b: 1 and 3; b: 1; q: 1 is of no loose rule, ALONE; a; c: 3; a: 4; q stays at 4
        int[] stands = {NONE, 1 + 4, 2 + 8, 2, 0, 1 + 4, 8, 16, 16};
        for (int at = 0; at < stands.length; at++) due("stand(" + at + ")", x.stand(at), stands[at]);
        due("stand(9)", x.stand(9), BAD);
        for (int bad : WRONG) due("stand(bad)", x.stand(bad), BAD);
        due("stand(0) of none", laid("r0,1;").stand(0), NONE);
        // a short rule goes no further where it is whole, and stays there all the same if it is loose
        x = laid("c1,a;c5,q;r2,+1;r0,&1&11;saaqa;");
        due("stand(2)", x.stand(2), 4);
        due("stand(3)", x.stand(3), 0);
        x.rename(0, 3);
        due("stand(3)", x.stand(3), 0);
        x.erase(1);
        due("stand(2)", x.stand(2), 1);
        due("stand(3)", x.stand(3), 1 + 2);
        // a letter of class 5 both stays and goes on
        x = laid("c5,q;r1,&5.;sqqa;");
        due("stand(1)", x.stand(1), 1);
        due("stand(2)", x.stand(2), 3);
        due("stand(3)", x.stand(3), 2);
    }

    private static void piece() {
        BoundaryRules x = laid("c1,a;c2,b;r0,&1+2;r1,&1&22;r2,1;sabbabcaab;");
        int[][] want = {{0, 3, 3, 3}, {3, 2, 1, 3}, {5, 1, 0, 0}, {6, 1, 4, 7}, {7, 2, 1, 3}};
        for (int i = 0; i < 5; i++) {
            for (int what = 0; what < 4; what++) due("piece(" + i + ", " + what + ")", x.piece(i, what), want[i][what]);
        }
        due("piece(5, 0)", x.piece(5, 0), BAD);
        due("piece(0, 4)", x.piece(0, 4), BAD);
        for (int bad : WRONG) due("piece(bad, 0)", x.piece(bad, 0), BAD);
        for (int bad : WRONG) due("piece(0, bad)", x.piece(0, bad), BAD);
        due("piece(0, 0) of none", laid("r0,1;").piece(0, 0), BAD);
    }

    private static void machine() {
        // ways: 0 by 1, 1 by 2 behind it, ALONE by others; 1 and ALONE do the same
        BoundaryRules x = laid("c1,a;c2,b;r0,&12;sbacbab;");
        due("machine(0)", x.machine(0), 3);
        due("machine(1)", x.machine(1), 2);
        // behind a 1 one stands at 0 from anywhere; behind any other, at 1 or ALONE, each next letter begins
        due("machine(2)", x.machine(2), 36);
        due("machine(3)", x.machine(3), 2);
        due("machine(4)", x.machine(4), 1);
        due("machine(5)", x.machine(5), BAD);
        for (int bad : WRONG) due("machine(bad)", x.machine(bad), BAD);
        // no ALONE where . begins all; of + it never ends, and one way to stand is all
        x = laid("r0,+.;sabc;");
        int[] want = {1, 1, 36, 1, 1};
        for (int what = 0; what < 5; what++) due("machine(" + what + ")", x.machine(what), want[what]);
        // of .. one stands at 0 or 1 by how many letters there were: never known, back to 0 from all places
        x = laid("r0,&..;sabcde;");
        want = new int[] {2, 2, 0, 1, 5};
        for (int what = 0; what < 5; what++) due("machine(" + what + ")", x.machine(what), want[what]);
        // of the last four of the table only y and z are told
        due("machine(3)", laid("c1,cdgh;r0,1;").machine(3), 2);
        due("machine(3)", laid("c1,ayz;c2,e;r0,1;").machine(3), 4);
        due("machine(3)", laid("c1,cdyz;r0,1;").machine(3), 3);
        due("machine(3)", laid("c1,abyz;r0,1;").machine(3), 2);
        x.tell(0, 4);
        due("machine(3) by tell", x.machine(3), 2);
        x = laid("c1,a;c5,q;r0,+1;");
        due("machine(0)", x.machine(0), 2);
        due("machine(2)", x.machine(2), 36);
        x.rename(0, 1);
        // by 5 one stays at 0, or is ALONE: all but (5, 5) have a letter that tells
        due("machine(2) of a loose one", x.machine(2), 36 - 1);
    }

    private static void alike() {
        BoundaryRules x = laid("r1,&1|23;");
        // 0 and 4 are nothing; 5 stays; 2 and 3 go on to unlike places
        for (int a = 0; a < 6; a++) {
            for (int b = 0; b < 6; b++) {
                due("alike(" + a + ", " + b + ")", x.alike(a, b), a == b || a % 4 == 0 && b % 4 == 0 ? 1 : 0);
            }
        }
        x.rename(0, 0);
        due("alike(5, 0)", x.alike(5, 0), 1);
        due("alike(6, 0)", x.alike(6, 0), BAD);
        due("alike(0, 6)", x.alike(0, 6), BAD);
        for (int bad : WRONG) due("alike(bad, 0)", x.alike(bad, 0), BAD);
        for (int bad : WRONG) due("alike(0, bad)", x.alike(0, bad), BAD);
        // alike in all that goes on, but one begins a piece and the other does not
        due("alike(1, 2)", laid("r0,|12;").alike(1, 2), 0);
        due("alike(1, 2) of .", laid("r0,&..;").alike(1, 2), 1);
        due("alike(1, 2) of 1", laid("r0,1;").alike(1, 2), 0);
    }

    private static void known() {
        // by 1 one stands at 0 or, ahead of it being 1 2, at 2; by (1, 2), at 1 or, the 1 being that at 2, ALONE
        BoundaryRules x = laid("r0,&1&21;");
        due("known(1, 2)", x.known(1, 2), 0);
        due("known(2, 1)", x.known(2, 1), 0);
        due("known(0, 1)", x.known(0, 1), 1);
        due("known(1, 1)", x.known(1, 1), 1);
        due("known(5, 5)", x.known(5, 5), 1);
        due("known(0, 6)", x.known(0, 6), BAD);
        due("known(6, 0)", x.known(6, 0), BAD);
        for (int bad : WRONG) due("known(bad, 0)", x.known(bad, 0), BAD);
        for (int bad : WRONG) due("known(0, bad)", x.known(0, bad), BAD);
        // in the midst of a piece a 2 goes on, at a line's beginning it is begun alone
        x = laid("r0,+|1&1*2;");
        due("known(2, 2)", x.known(2, 2), 0);
        due("known(1, 2)", x.known(1, 2), 1);
        due("known(2, 1)", x.known(2, 1), 1);
        // behind (2, 1) one stands at the 1 that begins or at the one that ends, behind (1, 1) at the one that begins
        x = laid("r0,&1&*21;");
        due("known(2, 1)", x.known(2, 1), 0);
        due("known(0, 1)", x.known(0, 1), 1);
        due("known(1, 0)", x.known(1, 0), 1);
        due("known(0, 0) of one way", laid("r0,+.;").known(0, 0), 1);
        due("known(0, 0) of two ways", laid("r0,&..;").known(0, 0), 0);
    }

    private static void back() {
        BoundaryRules x = laid("c1,a;c2,b;r0,&1&21;sabababcab;");
        // known are (2, 0), (0, 1), ..; not (1, 2), (2, 1)
        int[] to = {0, 0, 0, 0, 0, 0, 0, 7, 8, 8};
        for (int at = 0; at < to.length; at++) {
            due("back(" + at + ", 0)", x.back(at, 0), to[at]);
            due("back(" + at + ", 1)", x.back(at, 1), at - to[at]);
        }
        due("back(10, 0)", x.back(10, 0), BAD);
        due("back(0, 2)", x.back(0, 2), BAD);
        for (int bad : WRONG) due("back(bad, 0)", x.back(bad, 0), BAD);
        for (int bad : WRONG) due("back(0, bad)", x.back(0, bad), BAD);
        x.tell(0, 3);
        due("back(6, 0) by tell", x.back(6, 0), 6);
    }

    private static void idle() {
        BoundaryRules x = laid("c1,a;c2,b;c3,c;r0,&12;r0,&1&23;r0,3;sabab;");
        // without the first the second is the beginning of the same; without the second the first is
        due("idle()", x.idle(), 7);
        x.insert(2, 2);
        same("the boundaries", bounds(x), "100101");
        due("idle() with c", x.idle(), 5);
        due("idle() of what is needed", laid("c1,a;r0,+1;saa;").idle(), 0);
        due("idle() of one letter", laid("c1,a;r0,+1;sa;").idle(), 1);
        due("idle() of none", laid("c1,a;r0,+1;r0,2;r0,3;r0,.;").idle(), 15);
        due("rule(0, 1) is as it was", x.rule(0, 1), 3);
        due("stand(3) is as it was", x.stand(3), 16);
    }

    private static void least() {
        BoundaryRules x = laid("r0,&1&?23;r0,?4;r0,&.&..;");
        due("least(0)", x.least(0), 2);
        due("least(1)", x.least(1), 1);
        due("least(2)", x.least(2), 3);
        due("least(3)", x.least(3), BAD);
        for (int bad : WRONG) due("least(bad)", x.least(bad), BAD);
        due("least(0) of eight", laid("r0,&1&2&3&4&5&0&12;").least(0), 8);
        // whatever kind the rule is of, and whether there are letters of those classes or not
        due("least(0) of a short one", laid("r2,&+1+2;").least(0), 2);
        due("least(0) of a loose one", laid("r1,&1&51;").least(0), 3);
    }

    private static void day() {
        BoundaryRules x = laid("c1,a;r0,&+1*2;sagga;");
        // z = 0: x is 1 and DRAW 1, by which a comes at place 0: aa g g a; then x is 6152, DRAW 41487, l stays of 0
        int[] want = {5, 4, 2};
        for (int what = 0; what < 3; what++) due("day(0, 1, " + what + ")", x.day(0, 1, what), want[what]);
        for (int what = 0; what < 3; what++) due("day(0, 2, " + what + ")", x.day(0, 2, what), want[what]);
        // z = 3: x is 23758, DRAW 44670, by which the letter behind 174 modulo 4, 2, is out: a g a
        want = new int[] {3, 3, 1};
        for (int what = 0; what < 3; what++) due("day(3, 1, " + what + ")", x.day(3, 1, what), want[what]);
        // z = 4: x is 31677, DRAW 43735, by which g (5466 modulo 26) is of class 2 (170 modulo 6): agg a
        want = new int[] {4, 2, 3};
        for (int what = 0; what < 3; what++) due("day(4, 1, " + what + ")", x.day(4, 1, what), want[what]);
        same("the line is as it was", line(x), "agga");
        due("kind(6) is as it was", x.kind(6), 0);
        due("count(4) is as it was", x.count(4), 0);
        same("the boundaries are as they were", bounds(x), "11111");
        // z = 2: x is 15839, DRAW 59533, by which f comes at 232 modulo 3, 1, ahead of the line's end there are 2 letters
        x = laid("c1,a;r0,+1;saa;");
        want = new int[] {3, 3, 1};
        for (int what = 0; what < 3; what++) due("day(2, 1, " + what + ")", x.day(2, 1, what), want[what]);
        // z = 1: DRAW 22803, by which q is of class 5: nothing of b aa b is changed
        x = laid("c1,a;r0,+1;sbaab;");
        want = new int[] {4, 3, 2};
        for (int what = 0; what < 3; what++) due("day(1, 1, " + what + ")", x.day(1, 1, what), want[what]);
        due("day(3, 1, 0) of one", laid("r0,1;sa;").day(3, 1, 0), 0);
        BoundaryRules none = laid("r0,1;");
        due("day(3, 1, 0) of none", none.day(3, 1, 0), 0);
        due("day(3, 1, 1) of none", none.day(3, 1, 1), 0);
        due("day(3, 1, 2) of none", none.day(3, 1, 2), 0);
        BoundaryRules full = laid("r0,+.;sabcdefghijklmnopqrstuvwxyzabcd;");
        due("day(0, 1, 0) of a full line", full.day(0, 1, 0), 30);
        due("day(0, 1, 1) of a full line", full.day(0, 1, 1), 1);
        due("day(9999, 40, 0) < 0", full.day(9999, 40, 0) < 0 ? 1 : 0, 0);
        due("day(10000, 1, 0)", x.day(10000, 1, 0), BAD);
        due("day(0, 0, 0)", x.day(0, 0, 0), BAD);
        due("day(0, 41, 0)", x.day(0, 41, 0), BAD);
        due("day(0, 1, 3)", x.day(0, 1, 3), BAD);
        for (int bad : WRONG) due("day(bad, 1, 0)", x.day(bad, 1, 0), BAD);
        for (int bad : WRONG) due("day(0, bad, 0)", x.day(0, bad, 0), BAD);
        for (int bad : WRONG) due("day(0, 1, bad)", x.day(0, 1, bad), BAD);
    }

    private static void keep() {
        BoundaryRules x = laid("c1,a;r0,+1;saa;");
        due("keep()", x.keep(), 1);
        x.insert(0, 5);
        due("keep()", x.keep(), 2);
        due("keep()", x.keep(), FULL);
        due("count(5)", x.count(5), 2);
        due("count(4)", x.count(4), 1);
        due("undo() behind keep()", x.undo(), 0);
    }

    private static void restore() {
        BoundaryRules x = laid("c1,a;r0,+1;saa;");
        due("restore()", x.restore(), NO);
        x.keep();
        x.insert(1, 1);
        x.tell(1, 1);
        x.rename(0, 2);
        x.keep();
        x.erase(0);
        x.tell(0, 0);
        x.rename(0, 1);
        x.wipe();
        x.write(99);
        due("restore()", x.restore(), 1);
        same("the line", line(x), "aba");
        due("kind(0)", x.kind(0), 1);
        due("rule(0, 0)", x.rule(0, 0), 2);
        same("the boundaries", bounds(x), "1111");
        due("count(6)", x.count(6), 1);
        due("count(4)", x.count(4), 0);
        due("undo()", x.undo(), NO);
        due("machine(1)", x.machine(1), 1);
        due("restore()", x.restore(), 0);
        same("the line", line(x), "aa");
        due("kind(1)", x.kind(1), 0);
        same("the boundaries", bounds(x), "101");
        due("machine(1)", x.machine(1), 2);
        due("restore()", x.restore(), NO);
        due("keep()", x.keep(), 1);
    }

    private static void count() {
        BoundaryRules x = laid("c1,a;r0,+1;r1,&..;saab;");
        x.insert(0, 25);
        x.keep();
        int[] counts = {2, 3, 4, 2, 1, 1, 23};
        for (int what = 0; what < counts.length; what++) due("count(" + what + ")", x.count(what), counts[what]);
        due("count(7)", x.count(7), BAD);
        for (int bad : WRONG) due("count(bad)", x.count(bad), BAD);
        due("count(3) of none", laid("r0,1;").count(3), 0);
    }

    private static void constants() {
        due("BAD", BoundaryRules.BAD, BAD);
        due("NO", BoundaryRules.NO, NO);
        due("FULL", BoundaryRules.FULL, FULL);
        due("NONE", BoundaryRules.NONE, NONE);
    }

    public static void main(String[] args) {
        test("constants", PromiseTest::constants);
        test("promise 1 (new)", PromiseTest::newObject);
        test("promise 2 (write)", PromiseTest::write);
        test("promise 3 (wipe)", PromiseTest::wipe);
        test("promise 4 (fault)", PromiseTest::fault);
        test("promise 5 (lay)", PromiseTest::lay);
        test("promise 6 (rule)", PromiseTest::rule);
        test("promise 7 (place)", PromiseTest::place);
        test("promise 8 (kind)", PromiseTest::kind);
        test("promise 9 (letter)", PromiseTest::letter);
        test("promise 10 (insert)", PromiseTest::insert);
        test("promise 11 (erase)", PromiseTest::erase);
        test("promise 12 (tell)", PromiseTest::tell);
        test("promise 13 (rename)", PromiseTest::rename);
        test("promise 14 (undo)", PromiseTest::undo);
        test("promise 15 (isBoundary)", PromiseTest::isBoundary);
        test("promise 16 (boundary)", PromiseTest::boundary);
        test("promise 17 (stand)", PromiseTest::stand);
        test("promise 18 (piece)", PromiseTest::piece);
        test("promise 19 (machine)", PromiseTest::machine);
        test("promise 20 (alike)", PromiseTest::alike);
        test("promise 21 (known)", PromiseTest::known);
        test("promise 22 (back)", PromiseTest::back);
        test("promise 23 (idle)", PromiseTest::idle);
        test("promise 24 (least)", PromiseTest::least);
        test("promise 25 (day)", PromiseTest::day);
        test("promise 26 (keep)", PromiseTest::keep);
        test("promise 27 (restore)", PromiseTest::restore);
        test("promise 28 (count)", PromiseTest::count);
        end("PromiseTest");
    }
}
