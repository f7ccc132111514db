import java.lang.reflect.Field;
import java.lang.reflect.Method;
import java.lang.reflect.Modifier;
import java.nio.file.Files;
import java.nio.file.Path;
import java.util.Arrays;
import java.util.HashSet;
import java.util.Set;
import java.util.regex.Matcher;
import java.util.regex.Pattern;

/** What of ../shared/LANGUAGE.md can be seen from the source and the class; -Dsource names the source. */
public final class LanguageTest {
    /** Each call with how many numbers it is given; what they are named and answer, FaceTest sees. */
    private static final String[] FACE = {"write/1", "wipe/0", "fault/0", "lay/0", "rule/2", "place/2", "kind/1",
        "letter/1", "insert/2", "erase/1", "tell/2", "rename/2", "undo/0", "isBoundary/1", "boundary/2", "stand/1", "piece/2",
        "machine/1", "alike/2", "known/2", "back/2", "idle/0", "least/1", "day/3", "keep/0", "restore/0", "count/1"};

    private static int wrong;

    private static void want(boolean holds, String what) {
        if (!holds) {
            wrong++;
            System.out.println("LanguageTest: " + what);
        }
    }

    /** No member but the face is to be seen, and no private method bears the name of a public one. */
    private static void checkWhatIsSeen(Class<?> c) {
        Set<String> names = new HashSet<>();
        for (String call : FACE) names.add(call.substring(0, call.indexOf('/')));
        for (Method m : c.getDeclaredMethods()) {
            boolean isPublic = Modifier.isPublic(m.getModifiers());
            want(isPublic || Modifier.isPrivate(m.getModifiers()), m + " is neither public nor private");
            want(isPublic == names.contains(m.getName()), m + " is private by the name of a public one, or public beside the face");
        }
        for (Field f : c.getDeclaredFields()) {
            want(Modifier.isPublic(f.getModifiers()) || Modifier.isPrivate(f.getModifiers()), f + " is neither public nor private");
        }
    }

    /** Rule 7: whatever the numbers, however things stand, and beyond the 512th call, of which only the answers are free. */
    private static void checkNothingIsThrown() {
        Draws draws = new Draws(7);
        for (int run = 0; run < 30; run++) {
            Asked x = new Asked();
            for (int call = 0; call < 900; call++) {
                if (call % 300 == 200) x.lay(draws.text());
                String[] drawn = FACE[draws.draw(FACE.length)].split("/");
                int[] numbers = new int[Integer.parseInt(drawn[1])];
                for (int i = 0; i < numbers.length; i++) numbers[i] = anyNumber(draws);
                want(x.ask(drawn[0], numbers) != Asked.THREW, drawn[0] + " threw by " + Arrays.toString(numbers));
            }
        }
    }

    private static int anyNumber(Draws draws) {
        switch (draws.draw(8)) {
            case 0: return draws.draw(2) == 0 ? Integer.MIN_VALUE : Integer.MAX_VALUE;
            case 1: return draws.draw(1 << 30) * (draws.draw(2) == 0 ? -4 : 4) + draws.draw(4);
            case 2: return draws.draw(240) - 20;
            default: return draws.draw(34) - 2;
        }
    }

    private static void checkClass(Class<?> c) {
        int fields = 0;
        for (Field f : c.getDeclaredFields()) {
            boolean isStatic = Modifier.isStatic(f.getModifiers());
            want(!isStatic || Modifier.isFinal(f.getModifiers()), f + " is static and not final");
            if (!isStatic) fields++;
        }
        want(fields <= 20, c + " has " + fields + " fields");
        for (Method m : c.getDeclaredMethods()) {
            want(m.getParameterCount() <= 7, m + " takes too much");
            want(!m.isSynthetic(), m + " is made by the compiler");
            want(!Set.of("equals", "hashCode", "toString").contains(m.getName()), m + " is not to be told anew");
        }
    }

    private static String withoutCommentsAndTexts(String source) {
        return source.replaceAll("(?s)/\\*.*?\\*/", " ").replaceAll("//[^\n]*", " ")
            .replaceAll("\"[^\"\n]*\"", "\"\"").replaceAll("'[^']'", "' '");
    }

    private static void checkSource(String source) {
        String code = withoutCommentsAndTexts(source);
        for (String word : new String[] {"throw", "throws", "try", "catch", "finally", "synchronized", "assert", "package",
            "protected", "var", "record", "new Object", "Object", "System\\.out", "Thread", "Random", "Exception"}) {
            want(!Pattern.compile("\\b" + word + "\\b").matcher(code).find(), "the word " + word + " stands in it");
        }
        want(!code.contains("->") && !code.contains("::") && !code.contains("@"), "a lambda, a reference or an annotation");
        want(!Pattern.compile("static\\s*\\{").matcher(code).find(), "a static block");
        want(!Pattern.compile("Exact\\b").matcher(code).find(), "a function that throws");
        want(!Pattern.compile("while\\s*\\((?:true|1)|for\\s*\\([^;]*;\\s*;").matcher(code).find(), "a loop without an end");
        Matcher imports = Pattern.compile("import ([^;]*);").matcher(code);
        while (imports.find()) {
            want(Set.of("java.util.Arrays", "java.util.ArrayList", "java.util.List", "java.util.Iterator")
                .contains(imports.group(1)), "import " + imports.group(1));
        }
        for (char sign : source.toCharArray()) want(sign == '\n' || sign >= 32 && sign < 127, "the sign " + (int) sign);
        checkLengths(code);
        checkRoom(code);
    }

    /** All calls of a run live in one room: what an object needs is made with it, so that no call makes any. */
    private static void checkRoom(String code) {
        for (String line : code.split("\n")) {
            boolean isField = Pattern.matches(" {4}(?: {4})?private (?:static )?final \\S+ \\w+ = new .*;", line);
            want(isField || !Pattern.compile("\\bnew\\b|\\bclone\\b|copyOf|\\{ *\\d|substring|toCharArray|String\\w*\\(").matcher(line).find(),
                "something is made by a call: " + line);
        }
    }

    /** A method begins at four or eight signs of indent with a ( and ends at its own indent. */
    private static void checkLengths(String code) {
        Matcher m = Pattern.compile("(?m)^( {4}| {8})\\S[^;={}]*\\([^;{}]*\\)\\s*\\{\n(?s:(.*?))^\\1\\}").matcher(code);
        int methods = 0;
        while (m.find()) {
            methods++;
            want(m.group(2).lines().count() <= 60, "a long method: " + m.group().lines().findFirst().orElse(""));
        }
        want(methods > 27, "only " + methods + " methods were seen");
    }

    public static void main(String[] args) throws Exception {
        checkWhatIsSeen(BoundaryRules.class);
        checkNothingIsThrown();
        checkClass(BoundaryRules.class);
        Class<?>[] inside = BoundaryRules.class.getDeclaredClasses();
        want(inside.length <= 11, inside.length + " classes inside");
        for (Class<?> c : inside) {
            want(Modifier.isStatic(c.getModifiers()), c + " is not static");
            want(!Modifier.isPublic(c.getModifiers()) && !Modifier.isProtected(c.getModifiers()), c + " is to be seen");
            checkClass(c);
        }
        String path = System.getProperty("source", "src/main/java/BoundaryRules.java");
        checkSource(new String(Files.readAllBytes(Path.of(path)), "ISO-8859-1"));
        System.out.println("LanguageTest: " + (wrong == 0 ? "all as due" : wrong + " wrong"));
        if (wrong != 0) System.exit(1);
    }
}
