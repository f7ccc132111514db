import java.lang.reflect.Field;
import java.lang.reflect.Method;
import java.lang.reflect.Modifier;
import java.nio.file.Files;
import java.nio.file.Path;
import java.util.ArrayList;
import java.util.List;
import java.util.Set;
import java.util.TreeSet;
import java.util.regex.Matcher;
import java.util.regex.Pattern;

/**
 * The class beside the document's own words: "The public face", what the interface says ahead of which calls, each
 * promise's call. -Dshared names where DOC.md is, -Dsource the source.
 */
public final class FaceTest extends Due {
    private static final Pattern CALL = Pattern.compile("public int (\\w+)\\(([^)]*)\\)");
    private static String document, source;

    private static String read(String path) {
        try {
            return new String(Files.readAllBytes(Path.of(path)), "UTF-8");
        } catch (java.io.IOException e) {
            System.out.println(path + " cannot be read");
            return "";
        }
    }

    private static String face() {
        int from = document.indexOf("```java"), to = document.indexOf("```", from + 3);
        return from < 0 || to < 0 ? "" : document.substring(from, to);
    }

    /** Each call as the face has it, its numbers' names, too. */
    private static List<String> calls(String text) {
        List<String> calls = new ArrayList<>();
        Matcher m = CALL.matcher(text);
        while (m.find()) calls.add(m.group());
        return calls;
    }

    private static String name(String call) {
        Matcher m = CALL.matcher(call);
        return m.find() ? m.group(1) : "";
    }

    private static void theClass() {
        due("public final class BoundaryRules in the face", face().contains("public final class BoundaryRules {") ? 1 : 0, 1);
        due("public final", BoundaryRules.class.getModifiers(), Modifier.PUBLIC | Modifier.FINAL);
        due("public BoundaryRules(); in the face", face().contains("public BoundaryRules();") ? 1 : 0, 1);
        due("constructors", BoundaryRules.class.getDeclaredConstructors().length, 1);
        due("its modifiers", BoundaryRules.class.getDeclaredConstructors()[0].getModifiers(), Modifier.PUBLIC);
        due("its numbers", BoundaryRules.class.getDeclaredConstructors()[0].getParameterCount(), 0);
        same("what it goes on from", BoundaryRules.class.getSuperclass().getName(), "java.lang.Object");
        due("what it is, too", BoundaryRules.class.getInterfaces().length, 0);
    }

    private static void theConstants() {
        Matcher line = Pattern.compile("public static final int ([^;]*);").matcher(face());
        Set<String> wants = new TreeSet<>(), got = new TreeSet<>();
        while (line.find()) {
            for (String one : line.group(1).split(", ")) wants.add("int " + one);
        }
        for (Field f : BoundaryRules.class.getDeclaredFields()) {
            if (!Modifier.isPublic(f.getModifiers())) continue;
            due("the modifiers of " + f.getName(), f.getModifiers(), Modifier.PUBLIC | Modifier.STATIC | Modifier.FINAL);
            got.add(f.getType() + " " + f.getName() + " = " + value(f));
        }
        due("constants in the face", wants.size(), 4);
        same("the constants", got.toString(), wants.toString());
    }

    private static Object value(Field f) {
        try {
            return Modifier.isStatic(f.getModifiers()) ? f.get(null) : "of an object";
        } catch (IllegalAccessException e) {
            return e;
        }
    }

    private static void theCalls() {
        Set<String> wants = new TreeSet<>(), got = new TreeSet<>();
        for (String call : calls(face())) {
            wants.add(name(call) + "(" + call.replaceAll("[^(]*\\(|\\)", "").replaceAll("int \\w+", "int") + ") int public");
        }
        for (Method m : BoundaryRules.class.getDeclaredMethods()) {
            if (!Modifier.isPublic(m.getModifiers())) continue;
            List<String> types = new ArrayList<>();
            for (Class<?> type : m.getParameterTypes()) types.add(type.getName());
            got.add(m.getName() + "(" + String.join(", ", types) + ") " + m.getReturnType() + " "
                + Modifier.toString(m.getModifiers()));
        }
        due("calls in the face", wants.size(), 27);
        same("the calls", got.toString(), wants.toString());
    }

    private static void inItsOrder() {
        same("the calls in the source", calls(source).toString(), calls(face()).toString());
    }

    private static void aheadOfTheCalls() {
        Matcher m = Pattern.compile("Ahead of the calls (`[^:]*) the interface says: ---- ([^\n]*)\\.\n").matcher(document);
        int seen = 0;
        while (m.find()) {
            seen++;
            int from = source.indexOf("// ---- " + m.group(2) + "\n");
            due("whether the source says ---- " + m.group(2), from >= 0 ? 1 : 0, 1);
            int to = source.indexOf("// ---- ", from + 1);
            String part = from < 0 ? "" : source.substring(from, to < 0 ? source.length() : to);
            List<String> names = new ArrayList<>();
            for (String call : calls(part)) names.add("`" + name(call) + "`");
            same("the calls behind ---- " + m.group(2), String.join(", ", names), m.group(1));
        }
        due("what the interface says", seen, 5);
    }

    /** The face has each promise's call in the words of its promise, and its test is there. */
    private static void thePromises() {
        String tests = read(source("src/test/java/PromiseTest.java"));
        Matcher m = Pattern.compile("## Promise (\\d+): ([^\n]*)\n\n`(?:int )?([^`]*)`").matcher(document);
        int seen = 0;
        while (m.find()) {
            seen++;
            due("the promise's number", Integer.parseInt(m.group(1)), seen);
            String word = seen == 1 ? "new" : m.group(2);
            if (seen > 1) due(m.group(3) + " in the face", face().contains("public int " + m.group(3) + ";") ? 1 : 0, 1);
            String label = "test(\"promise " + seen + " (" + word + ")\"";
            due("whether there is " + label, tests.contains(label) ? 1 : 0, 1);
        }
        due("promises", seen, 28);
    }

    /** Beside the source, whatever the directory is that the test runs in. */
    private static String source(String path) {
        String own = "src/main/java/BoundaryRules.java", named = System.getProperty("source", own);
        return named.endsWith(own) ? named.substring(0, named.length() - own.length()) + path : path;
    }

    public static void main(String[] args) {
        document = read(System.getProperty("shared", "../shared") + "/DOC.md");
        source = read(source("src/main/java/BoundaryRules.java"));
        test("public final class, its constructor", FaceTest::theClass);
        test("the names and values of the constants", FaceTest::theConstants);
        test("the names of the calls, what each may be given", FaceTest::theCalls);
        test("the calls in the order of the face", FaceTest::inItsOrder);
        test("ahead of the calls the interface says", FaceTest::aheadOfTheCalls);
        test("promises 1 to 28", FaceTest::thePromises);
        end("FaceTest");
    }
}
