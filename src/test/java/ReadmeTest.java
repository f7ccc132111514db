import java.lang.reflect.Method;
import java.lang.reflect.Modifier;
import java.nio.file.Files;
import java.nio.file.Path;
import java.util.Set;
import java.util.TreeSet;
import java.util.regex.Matcher;
import java.util.regex.Pattern;

/** Each example in README.md answers as it says; each call and each constant is in one. -Dreadme names the file. */
public final class ReadmeTest extends Due {
    private static final Pattern MADE = Pattern.compile("BoundaryRules x = new BoundaryRules\\(\\);");
    private static final Pattern WRITTEN = Pattern.compile("for \\(char c : \"([^\"]*)\"\\.toCharArray\\(\\)\\) x\\.write\\(c\\);");
    private static final Pattern ASKED =
        Pattern.compile("x\\.(\\w+)\\(([-0-9, ]*)\\); +// (?:(-?\\d+)|BoundaryRules\\.([A-Z]+))(, ([A-Z]+)(?::.*|$)|\\b.*)");

    private static final Set<String> shown = new TreeSet<>();
    private static Asked x;

    private static String readme() {
        try {
            return new String(Files.readAllBytes(Path.of(System.getProperty("readme", "README.md"))), "UTF-8");
        } catch (java.io.IOException e) {
            return "";
        }
    }

    private static int constant(String name) {
        shown.add(name);
        try {
            return BoundaryRules.class.getField(name).getInt(null);
        } catch (NoSuchFieldException | IllegalAccessException e) {
            due("whether there is a constant " + name, 0, 1);
            return 0;
        }
    }

    private static int[] numbers(String told) {
        String[] all = told.isEmpty() ? new String[0] : told.split(", ");
        int[] numbers = new int[all.length];
        for (int i = 0; i < all.length; i++) numbers[i] = Integer.parseInt(all[i]);
        return numbers;
    }

    private static void ask(Matcher m) {
        shown.add(m.group(1));
        int want = m.group(3) != null ? Integer.parseInt(m.group(3)) : constant(m.group(4));
        due(m.group(), x.ask(m.group(1), numbers(m.group(2))), want);
        if (m.group(6) != null) due("the constant of " + m.group(), constant(m.group(6)), want);
    }

    private static void example(String line) {
        Matcher written = WRITTEN.matcher(line), asked = ASKED.matcher(line);
        if (MADE.matcher(line).matches()) {
            x = new Asked();
        } else if (written.matches()) {
            shown.add("write");
            for (char sign : written.group(1).toCharArray()) due("write(" + sign + ") > 0", x.ask("write", sign) > 0 ? 1 : 0, 1);
        } else if (asked.matches()) {
            ask(asked);
        } else {
            same("a line that is no example", line, "");
        }
    }

    private static void theExamples() {
        Matcher blocks = Pattern.compile("(?s)```java\n(.*?)```").matcher(readme());
        int lines = 0;
        while (blocks.find()) {
            for (String line : blocks.group(1).split("\n")) {
                example(line);
                lines++;
            }
        }
        due("whether there are examples", lines > 0 ? 1 : 0, 1);
        due("whether they are too many calls for an object", x == null || x.calls() > Asked.MOST_CALLS ? 1 : 0, 0);
    }

    private static void eachCallAndConstant() {
        for (Method m : BoundaryRules.class.getDeclaredMethods()) {
            if (Modifier.isPublic(m.getModifiers())) due("whether " + m.getName() + " is shown", shown.contains(m.getName()) ? 1 : 0, 1);
        }
        for (String name : new String[] {"BAD", "NO", "FULL", "NONE"}) {
            due("whether " + name + " is shown", shown.contains(name) ? 1 : 0, 1);
            String told = "`" + name + "` (" + constant(name) + ")";
            due("whether the table tells " + told, readme().contains(told) ? 1 : 0, 1);
        }
    }

    public static void main(String[] args) {
        test("the examples of README.md", ReadmeTest::theExamples);
        test("all that README.md shows", ReadmeTest::eachCallAndConstant);
        end("ReadmeTest");
    }
}
