import java.lang.reflect.Field;
import java.lang.reflect.Method;
import java.lang.reflect.Modifier;
import java.nio.file.Files;
import java.nio.file.Path;
import java.util.HashSet;
import java.util.Set;
import java.util.TreeSet;
import java.util.regex.Matcher;
import java.util.regex.Pattern;

/** What of ../shared/LANGUAGE.md can be seen from the source and the class; -Dsource names the source. */
public final class LanguageTest {
    private static final Set<String> FACE = Set.of("write/1", "wipe/0", "fault/0", "lay/0", "rule/2", "place/2", "kind/1",
        "letter/1", "insert/2", "erase/1", "tell/2", "rename/2", "undo/0", "isBoundary/1", "boundary/2", "stand/1", "piece/2",
        "machine/1", "alike/2", "known/2", "back/2", "idle/0", "least/1", "day/3", "keep/0", "restore/0", "count/1");

    private static int wrong;

    private static void want(boolean holds, String what) {
        if (!holds) {
            wrong++;
            System.out.println("LanguageTest: " + what);
        }
    }

    private static void checkFace(Class<?> c) {
        Set<String> face = new TreeSet<>(), names = new HashSet<>();
        for (String f : FACE) names.add(f.substring(0, f.indexOf('/')));
        for (Method m : c.getDeclaredMethods()) {
            if (Modifier.isPublic(m.getModifiers())) {
                face.add(m.getName() + "/" + m.getParameterCount());
                want(m.getReturnType() == int.class && !Modifier.isStatic(m.getModifiers()), m + " is not as in the face");
                for (Class<?> p : m.getParameterTypes()) want(p == int.class, m + " takes another type");
            } else {
                want(Modifier.isPrivate(m.getModifiers()), m + " is neither public nor private");
                want(!names.contains(m.getName()), m + " bears the name of a public one");
            }
        }
        want(face.equals(new TreeSet<>(FACE)), "the face is " + face);
        Set<String> constants = new TreeSet<>();
        for (Field f : c.getDeclaredFields()) {
            if (Modifier.isPublic(f.getModifiers())) constants.add(f.getName());
            else want(Modifier.isPrivate(f.getModifiers()), f + " is neither public nor private");
        }
        want(constants.equals(Set.of("BAD", "NO", "FULL", "NONE")), "the constants are " + constants);
        want(Modifier.isPublic(c.getModifiers()) && Modifier.isFinal(c.getModifiers()), "the class is public and final");
        want(c.getDeclaredConstructors().length == 1 && c.getConstructors().length == 1, "one constructor, public");
    }

    private static void checkClass(Class<?> c) {
        int fields = 0;
        for (Field f : c.getDeclaredFields()) {
            boolean isStatic = Modifier.isStatic(f.getModifiers());
            want(!isStatic || Modifier.isFinal(f.getModifiers()), f + " is static and not final");
            if (!isStatic) fields++;
        }
        want(fields <= 20, c + " has " + fields + " fields");
        for (Method m : c.getDeclaredMethods()) {
            want(m.getParameterCount() <= 7, m + " takes too much");
            want(!m.isSynthetic(), m + " is made by the compiler");
            want(!Set.of("equals", "hashCode", "toString").contains(m.getName()), m + " is not to be told anew");
        }
    }

    private static String withoutCommentsAndTexts(String source) {
        return source.replaceAll("(?s)/\\*.*?\\*/", " ").replaceAll("//[^\n]*", " ")
            .replaceAll("\"[^\"\n]*\"", "\"\"").replaceAll("'[^']'", "' '");
    }

    private static void checkSource(String source) {
        String code = withoutCommentsAndTexts(source);
        for (String word : new String[] {"throw", "throws", "try", "catch", "finally", "synchronized", "assert", "package",
            "protected", "var", "record", "new Object", "Object", "System\\.out", "Thread", "Random", "Exception"}) {
            want(!Pattern.compile("\\b" + word + "\\b").matcher(code).find(), "the word " + word + " stands in it");
        }
        want(!code.contains("->") && !code.contains("::") && !code.contains("@"), "a lambda, a reference or an annotation");
        want(!Pattern.compile("static\\s*\\{").matcher(code).find(), "a static block");
        want(!Pattern.compile("Exact\\b").matcher(code).find(), "a function that throws");
        want(!Pattern.compile("while\\s*\\((?:true|1)|for\\s*\\([^;]*;\\s*;").matcher(code).find(), "a loop without an end");
        Matcher imports = Pattern.compile("import ([^;]*);").matcher(code);
        while (imports.find()) {
            want(Set.of("java.util.Arrays", "java.util.ArrayList", "java.util.List", "java.util.Iterator")
                .contains(imports.group(1)), "import " + imports.group(1));
        }
        for (char sign : source.toCharArray()) want(sign == '\n' || sign >= 32 && sign < 127, "the sign " + (int) sign);
        checkLengths(code);
    }

    /** A method begins at four or eight signs of indent with a ( and ends at its own indent. */
    private static void checkLengths(String code) {
        Matcher m = Pattern.compile("(?m)^( {4}| {8})\\S[^;={}]*\\([^;{}]*\\)\\s*\\{\n(?s:(.*?))^\\1\\}").matcher(code);
        int methods = 0;
        while (m.find()) {
            methods++;
            want(m.group(2).lines().count() <= 60, "a long method: " + m.group().lines().findFirst().orElse(""));
        }
        want(methods > 27, "only " + methods + " methods were seen");
    }

    public static void main(String[] args) throws Exception {
        checkFace(BoundaryRules.class);
        checkClass(BoundaryRules.class);
        Class<?>[] inside = BoundaryRules.class.getDeclaredClasses();
        want(inside.length <= 11, inside.length + " classes inside");
        for (Class<?> c : inside) {
            want(Modifier.isStatic(c.getModifiers()), c + " is not static");
            want(!Modifier.isPublic(c.getModifiers()) && !Modifier.isProtected(c.getModifiers()), c + " is to be seen");
            checkClass(c);
        }
        String path = System.getProperty("source", "src/main/java/BoundaryRules.java");
        checkSource(new String(Files.readAllBytes(Path.of(path)), "ISO-8859-1"));
        System.out.println("LanguageTest: " + (wrong == 0 ? "all as due" : wrong + " wrong"));
        if (wrong != 0) System.exit(1);
    }
}
