import java.io.IOException;
import java.lang.reflect.Method;
import java.lang.reflect.Modifier;
import java.nio.charset.StandardCharsets;
import java.nio.file.Files;
import java.nio.file.Path;
import java.util.List;
import java.util.stream.Collectors;
import java.util.stream.Stream;

/** Carries out the runs of the files src/test/runs/*.txt. */
public final class RunsTests {
    private final Rows rows = new Rows();

    public static void main(String[] args) throws IOException {
        List<Path> files = filesIn(args.length > 0 ? args[0] : "src/test/runs");
        RunsTests tests = new RunsTests();
        for (Path path : files) {
            tests.carryOut(path);
        }
        tests.complainOfMethodsNotCalled();
        System.out.println(files.size() + " files of runs, " + tests.rows.calls + " calls, " + tests.rows.wrong
            + " wrong");
        if (tests.rows.wrong != 0 || files.isEmpty()) {
            System.exit(1);
        }
    }

    static List<Path> filesIn(String folder) throws IOException {
        try (Stream<Path> found = Files.list(Path.of(folder))) {
            return found.filter(p -> p.toString().endsWith(".txt")).sorted().collect(Collectors.toList());
        }
    }

    private void carryOut(Path path) throws IOException {
        rows.startAnew();
        int line = 0;
        for (String row : Files.readAllLines(path, StandardCharsets.UTF_8)) {
            line++;
            String trimmed = row.strip();
            if (!trimmed.isEmpty() && !trimmed.startsWith("#")) {
                rows.carryOut(trimmed, path.getFileName() + ":" + line);
            }
        }
    }

    private void complainOfMethodsNotCalled() {
        for (Method m : MirrorBytes.class.getDeclaredMethods()) {
            if (Modifier.isPublic(m.getModifiers()) && !rows.called.contains(m.getName())) {
                rows.complain(m.getName(), "no run calls it");
            }
        }
    }
}
