import java.io.IOException;
import java.lang.reflect.Field;
import java.lang.reflect.Method;
import java.lang.reflect.Modifier;
import java.nio.file.Files;
import java.nio.file.Path;
import java.util.List;
import java.util.regex.Matcher;
import java.util.regex.Pattern;

/** Carries out the examples of README.md, and looks whether it tells of all that the class offers. */
public final class ReadmeTests {
    private static final Pattern NEW = Pattern.compile("MirrorBytes x = new MirrorBytes\\(\\);");
    private static final Pattern TEXT = Pattern.compile("type\\(x, \"(.*)\"\\);.*");
    private static final Pattern CALL = Pattern.compile("x\\.(\\w+)\\(([^()]*)\\); +// (-?\\w+)\\b.*");

    private final Rows rows = new Rows();
    private int examples;

    public static void main(String[] args) throws IOException {
        Path path = Path.of(args.length > 0 ? args[0] : "README.md");
        ReadmeTests tests = new ReadmeTests();
        tests.carryOutExamples(Files.readAllLines(path));
        tests.lookForWholeFace(Files.readString(path));
        System.out.println(tests.examples + " examples, " + tests.rows.calls + " calls, " + tests.rows.wrong
            + " wrong");
        if (tests.rows.wrong != 0 || tests.examples == 0) {
            System.exit(1);
        }
    }

    private void carryOutExamples(List<String> lines) {
        boolean inside = false;
        for (int i = 0; i < lines.size(); i++) {
            String line = lines.get(i);
            if (line.startsWith("```")) {
                inside = line.equals("```java");
                examples += inside ? 1 : 0;
            } else if (inside) {
                carryOut(line, "README.md:" + (i + 1));
            }
        }
    }

    private void carryOut(String line, String where) {
        Matcher text = TEXT.matcher(line);
        Matcher call = CALL.matcher(line);
        if (NEW.matcher(line).matches()) {
            rows.startAnew();
        } else if (text.matches()) {
            rows.carryOut("text " + text.group(1), where);
        } else if (call.matches()) {
            String values = call.group(2).replace(",", "");
            rows.carryOut((call.group(1) + " " + values).strip() + " = " + call.group(3), where);
        } else if (line.startsWith("x.")) {
            rows.complain(line, "line " + where + " has not the form of a call with its answer");
        }
    }

    /** Every method stands in the text as it is declared, and every constant with its value. */
    private void lookForWholeFace(String readme) throws IOException {
        for (Method m : MirrorBytes.class.getDeclaredMethods()) {
            if (Modifier.isPublic(m.getModifiers())) {
                lookFor(readme, "`" + m.getName() + "(");
            }
        }
        for (Field f : MirrorBytes.class.getFields()) {
            lookFor(readme, "`" + f.getName() + "`");
        }
        for (String kind : List.of("rw", "ro", "wo", "wc", "ws", "wt", "rc", "on")) {
            lookFor(readme, "`" + kind + "`");
        }
        for (String item : List.of("r A;", "f K L H V;", "a A R K;", "k R F;", "s R F;")) {
            lookFor(readme, "`" + item + "`");
        }
    }

    private void lookFor(String readme, String part) {
        if (!readme.contains(part)) {
            rows.complain("README.md", "does not tell of " + part);
        }
    }
}
