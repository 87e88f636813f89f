import java.io.IOException;
import java.lang.reflect.Method;
import java.nio.charset.StandardCharsets;
import java.nio.file.Files;
import java.nio.file.Path;
import java.util.ArrayList;
import java.util.List;
import java.util.stream.Collectors;
import java.util.stream.Stream;

/**
 * Carries out the runs of the files src/test/runs/*.txt, whose form README.md tells, and prints
 * every call whose answer is not the one that is due.
 */
public final class RunsTests {
    private static final List<String> METHODS = new ArrayList<>();
    private static int wrong;
    private static int calls;

    private final String file;
    private MirrorBytes block = new MirrorBytes();
    private int line;

    private RunsTests(String file) {
        this.file = file;
    }

    public static void main(String[] args) throws Exception {
        Path folder = Path.of(args.length > 0 ? args[0] : "src/test/runs");
        List<Path> files;
        try (Stream<Path> found = Files.list(folder)) {
            files = found.filter(p -> p.toString().endsWith(".txt")).sorted().collect(Collectors.toList());
        }
        for (Path path : files) {
            new RunsTests(path.getFileName().toString()).carryOut(path);
        }
        complainOfMethodsNotCalled();
        System.out.println(files.size() + " files of runs, " + calls + " calls, " + wrong + " wrong");
        if (wrong != 0 || files.isEmpty()) {
            System.exit(1);
        }
    }

    private static void complainOfMethodsNotCalled() {
        for (Method m : MirrorBytes.class.getDeclaredMethods()) {
            if (java.lang.reflect.Modifier.isPublic(m.getModifiers()) && !METHODS.contains(m.getName())) {
                wrong++;
                System.out.println("no run calls " + m.getName());
            }
        }
    }

    private void carryOut(Path path) throws IOException {
        for (String row : Files.readAllLines(path, StandardCharsets.UTF_8)) {
            line++;
            String trimmed = row.strip();
            if (!trimmed.isEmpty() && !trimmed.startsWith("#")) {
                carryOutRow(trimmed);
            }
        }
    }

    private void carryOutRow(String row) {
        if (row.equals("new")) {
            block = new MirrorBytes();
            return;
        }
        if (row.startsWith("text ")) {
            typeAll(row.substring(5));
            return;
        }
        int equals = row.lastIndexOf('=');
        if (equals < 0) {
            throw new IllegalStateException(file + ":" + line + ": no answer is given");
        }
        String call = row.substring(0, equals).strip();
        int want = number(row.substring(equals + 1).strip());
        int times = 1;
        if (call.startsWith("times ")) {
            String[] parts = call.split(" ", 3);
            times = number(parts[1]);
            call = parts[2];
        }
        for (int i = 0; i < times; i++) {
            due(call, answer(call), want);
        }
    }

    private int answer(String call) {
        if (call.startsWith("tell ") || call.equals("tell")) {
            block.clear();
            typeAll(call.equals("tell") ? "" : call.substring(5));
            METHODS.add("tells");
            return block.tells();
        }
        String[] words = call.split(" +");
        METHODS.add(words[0]);
        Class<?>[] types = new Class<?>[words.length - 1];
        Object[] values = new Object[words.length - 1];
        for (int i = 1; i < words.length; i++) {
            types[i - 1] = int.class;
            values[i - 1] = number(words[i]);
        }
        try {
            return (Integer) MirrorBytes.class.getMethod(words[0], types).invoke(block, values);
        } catch (ReflectiveOperationException e) {
            throw new IllegalStateException(file + ":" + line + ": " + call, e);
        }
    }

    private void typeAll(String text) {
        // The sign _ is a blank that can be seen.
        for (char letter : text.replace('_', ' ').toCharArray()) {
            if (block.type(letter) < 0) {
                throw new IllegalStateException(file + ":" + line + ": the text is too long");
            }
        }
    }

    private static int number(String word) {
        switch (word) {
            case "BAD": return MirrorBytes.BAD;
            case "STATE": return MirrorBytes.STATE;
            case "FULL": return MirrorBytes.FULL;
            case "NONE": return MirrorBytes.NONE;
            case "LEAST": return Integer.MIN_VALUE;
            case "GREATEST": return Integer.MAX_VALUE;
            default: return word.startsWith("0b") ? Integer.parseInt(word.substring(2), 2) : Integer.decode(word);
        }
    }

    private void due(String call, int got, int want) {
        calls++;
        if (got != want) {
            wrong++;
            System.out.println(file + ":" + line + ": " + call + " answered " + got + ", due is " + want);
        }
    }
}
