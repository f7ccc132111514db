/** Many runs of drawn calls, and each short row, beside the plain model; the same draws each time (or: runs, seed). */
public final class ModelTest {
    private static final int CALLS = 500;

    /** Of hundreds of ways to stand, most of them unlike; the likeliest to go wrong where ways are told apart. */
    private static final String[] OF_MANY_WAYS = {
        "r1,*&3&&.&.3&&..&..;r1,+&3.;", "r1,+&&1.&.&.&.&.&..;r1,+|12;", "r1,*&|3+0.;r1,*&+&3.&0+&&.&..3;",
    };

    private static Draws draws;
    private static int wrong;

    private static void due(int run, int call, String what, int got, int want) {
        if (got != want && wrong++ < 20) {
            System.out.println("run " + run + ", call " + call + ": " + what + " answered " + got + ", due is " + want);
        }
    }

    private static int layText(int run, int done, BoundaryRules x, PlainModel m) {
        String text = draws.text();
        due(run, done++, "wipe()", x.wipe(), m.wipe());
        for (int i = 0; i < text.length(); i++) {
            due(run, done++, "write(" + (int) text.charAt(i) + ")", x.write(text.charAt(i)), m.write(text.charAt(i)));
        }
        due(run, done++, "fault() of " + text, x.fault(), m.fault());
        due(run, done++, "lay() of " + text, x.lay(), m.lay());
        return done;
    }

    private static void layInBoth(int run, BoundaryRules x, PlainModel m, String text) {
        x.wipe();
        m.wipe();
        for (char sign : text.toCharArray()) due(run, 0, "write(" + (int) sign + ")", x.write(sign), m.write(sign));
        due(run, 1, "fault() of " + text, x.fault(), m.fault());
        due(run, 1, "lay() of " + text, x.lay(), m.lay());
    }

    private static void layAndAskOfManyWays(int run, String text) {
        BoundaryRules x = new BoundaryRules();
        PlainModel m = new PlainModel();
        layInBoth(run, x, m, text);
        for (int what = 0; what < 5; what++) due(run, 2, "machine(" + what + ") of " + text, x.machine(what), m.machine(what));
        for (int a = 0; a < 6; a++) {
            for (int b = 0; b < 6; b++) {
                due(run, 3, "alike(" + a + ", " + b + ") of " + text, x.alike(a, b), m.alike(a, b));
                due(run, 3, "known(" + a + ", " + b + ") of " + text, x.known(a, b), m.known(a, b));
            }
        }
    }

    /** Each row of so many signs, whether it is one or not; of those that are, all that the rows and a line tell. */
    private static void layEachRowOf(int signs) {
        String all = "1.&|*+?";
        int rows = 1;
        for (int i = 0; i < signs; i++) rows *= all.length();
        for (int row = 0; row < rows; row++) {
            StringBuilder text = new StringBuilder("r").append(row % 4).append(',');
            for (int i = 0, left = row; i < signs; i++, left /= all.length()) text.append(all.charAt(left % all.length()));
            layAndAskOfRow(row, text.append(";c1,a;c5,q;saqbaaqqaba;").toString());
        }
    }

    private static void layAndAskOfRow(int run, String text) {
        BoundaryRules x = new BoundaryRules();
        PlainModel m = new PlainModel();
        layInBoth(run, x, m, text);
        if (m.fault() >= 0) return;
        for (int what = 0; what < 4; what++) due(run, 2, "rule(0, " + what + ") of " + text, x.rule(0, what), m.rule(0, what));
        for (int p = 0; p < m.count(1); p++) due(run, 3, "place(" + p + ", 1) of " + text, x.place(p, 1), m.place(p, 1));
        for (int at = 0; at <= m.count(2); at++) due(run, 4, "stand(" + at + ") of " + text, x.stand(at), m.stand(at));
        for (int what = 0; what < 5; what++) due(run, 5, "machine(" + what + ") of " + text, x.machine(what), m.machine(what));
        due(run, 6, "idle() of " + text, x.idle(), m.idle());
        due(run, 6, "least(0) of " + text, x.least(0), m.least(0));
    }

    private static void call(int run, int done, BoundaryRules x, PlainModel m) {
        int n = m.count(2), a, b, c;
        switch (draws.draw(31)) {
            case 0: due(run, done, "write(" + (a = draws.near(32, 126)) + ")", x.write(a), m.write(a)); break;
            case 1: due(run, done, "wipe()", x.wipe(), m.wipe()); break;
            case 2: due(run, done, "fault()", x.fault(), m.fault()); break;
            case 3: due(run, done, "lay()", x.lay(), m.lay()); break;
            case 4: due(run, done, "rule(" + (a = draws.near(0, 3)) + ", " + (b = draws.near(0, 3)) + ")", x.rule(a, b), m.rule(a, b)); break;
            case 5: due(run, done, "place(" + (a = draws.near(0, 9)) + ", " + (b = draws.near(0, 1)) + ")", x.place(a, b), m.place(a, b)); break;
            case 6: due(run, done, "kind(" + (a = draws.near(0, 25)) + ")", x.kind(a), m.kind(a)); break;
            case 7: due(run, done, "letter(" + (a = draws.near(0, n)) + ")", x.letter(a), m.letter(a)); break;
            case 8: case 9: due(run, done, "insert(" + (a = draws.near(0, n)) + ", " + (b = draws.near(0, 25)) + ")", x.insert(a, b), m.insert(a, b)); break;
            case 10: due(run, done, "erase(" + (a = draws.near(0, n)) + ")", x.erase(a), m.erase(a)); break;
            case 11: due(run, done, "tell(" + (a = draws.near(0, 25)) + ", " + (b = draws.near(0, 5)) + ")", x.tell(a, b), m.tell(a, b)); break;
            case 12: due(run, done, "rename(" + (a = draws.near(0, 3)) + ", " + (b = draws.near(0, 3)) + ")", x.rename(a, b), m.rename(a, b)); break;
            case 13: case 14: due(run, done, "undo()", x.undo(), m.undo()); break;
            case 15: due(run, done, "isBoundary(" + (a = draws.near(0, n)) + ")", x.isBoundary(a), m.isBoundary(a)); break;
            case 16: due(run, done, "boundary(" + (a = draws.near(0, n)) + ", " + (b = draws.near(0, 1)) + ")", x.boundary(a, b), m.boundary(a, b)); break;
            case 17: case 18: due(run, done, "stand(" + (a = draws.near(0, n)) + ")", x.stand(a), m.stand(a)); break;
            case 19: case 20: due(run, done, "piece(" + (a = draws.near(0, m.count(3))) + ", " + (b = draws.near(0, 3)) + ")", x.piece(a, b), m.piece(a, b)); break;
            case 21: due(run, done, "machine(" + (a = draws.near(0, 4)) + ")", x.machine(a), m.machine(a)); break;
            case 22: due(run, done, "alike(" + (a = draws.near(0, 5)) + ", " + (b = draws.near(0, 5)) + ")", x.alike(a, b), m.alike(a, b)); break;
            case 23: due(run, done, "known(" + (a = draws.near(0, 5)) + ", " + (b = draws.near(0, 5)) + ")", x.known(a, b), m.known(a, b)); break;
            case 24: due(run, done, "back(" + (a = draws.near(0, n)) + ", " + (b = draws.near(0, 1)) + ")", x.back(a, b), m.back(a, b)); break;
            case 25: due(run, done, "idle()", x.idle(), m.idle()); break;
            case 26: due(run, done, "least(" + (a = draws.near(0, 3)) + ")", x.least(a), m.least(a)); break;
            case 27:
                a = draws.near(0, 9999);
                b = draws.near(1, 40);
                c = draws.near(0, 2);
                due(run, done, "day(" + a + ", " + b + ", " + c + ")", x.day(a, b, c), m.day(a, b, c));
                break;
            case 28: due(run, done, "keep()", x.keep(), m.keep()); break;
            case 29: due(run, done, "restore()", x.restore(), m.restore()); break;
            default: due(run, done, "count(" + (a = draws.near(0, 6)) + ")", x.count(a), m.count(a)); break;
        }
    }

    /** Two objects in turn, so that one would be seen to change the other. */
    private static void runTwoInTurn(int run) {
        BoundaryRules[] x = {new BoundaryRules(), new BoundaryRules()};
        PlainModel[] m = {new PlainModel(), new PlainModel()};
        int[] done = new int[2];
        for (int i = 0; i < 2; i++) done[i] = draws.draw(3) == 0 ? 0 : layText(run, 0, x[i], m[i]);
        while (done[0] < CALLS || done[1] < CALLS) {
            int i = draws.draw(2);
            if (done[i] >= CALLS) i = 1 - i;
            call(run, done[i]++, x[i], m[i]);
            if (draws.draw(150) == 0 && done[i] < CALLS - 210) done[i] = layText(run, done[i], x[i], m[i]);
        }
    }

    public static void main(String[] args) {
        int runs = args.length > 0 ? Integer.parseInt(args[0]) : 40;
        draws = new Draws(args.length > 1 ? Long.parseLong(args[1]) : 0);
        for (int run = 0; run < runs; run++) runTwoInTurn(run);
        for (int i = 0; i < OF_MANY_WAYS.length; i++) layAndAskOfManyWays(runs + i, OF_MANY_WAYS[i]);
        for (int signs = 0; signs <= 5; signs++) layEachRowOf(signs);
        System.out.println("ModelTest: " + (wrong == 0 ? "all as due" : wrong + " wrong"));
        if (wrong != 0) System.exit(1);
    }
}
