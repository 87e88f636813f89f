import java.io.IOException;
import java.nio.charset.StandardCharsets;
import java.nio.file.Files;
import java.nio.file.Path;
import java.util.ArrayList;
import java.util.BitSet;
import java.util.LinkedHashMap;
import java.util.List;
import java.util.Map;

/**
 * Carries out the tests of the document's sentences, src/test/sentences/*.txt, and looks whether
 * each word that the document says in these sections stands in a sentence that has a test.
 */
public final class SentenceTests {
    private static final String DOCUMENT = "../shared/DOC.md";

    private final Rows rows = new Rows();
    private final Map<String, Section> sections = new LinkedHashMap<>();
    private Section section;
    private String place;
    private String sentence = "";
    private boolean isTested = true;
    private int sentences;

    public static void main(String[] args) throws IOException {
        List<Path> files = RunsTests.filesIn(args.length > 0 ? args[0] : "src/test/sentences");
        SentenceTests tests = new SentenceTests();
        tests.readSections(files);
        for (Path path : files) {
            tests.carryOut(path);
        }
        tests.complainOfWordsWithoutTest();
        System.out.println(tests.sentences + " tests of sentences, " + tests.rows.calls + " calls, "
            + tests.rows.wrong + " wrong");
        if (tests.rows.wrong != 0 || files.isEmpty()) {
            System.exit(1);
        }
    }

    /** Takes those sections from the document for which there are tests. */
    private void readSections(List<Path> files) throws IOException {
        for (Path path : files) {
            for (String row : linesOf(path)) {
                if (row.startsWith("section ")) {
                    sections.put(row.substring(8), new Section());
                }
            }
        }
        Section open = null;
        for (String line : linesOf(Path.of(DOCUMENT))) {
            String title = line.replaceFirst("^## ", "");
            if (sections.containsKey(title) || line.startsWith("#")) {
                open = sections.get(title);
            } else if (open != null && !line.matches("----.*|`[^`]*`|")) {
                open.append(line);
            }
        }
    }

    private static List<String> linesOf(Path path) throws IOException {
        List<String> lines = new ArrayList<>();
        for (String line : Files.readAllLines(path, StandardCharsets.UTF_8)) {
            lines.add(line.strip());
        }
        return lines;
    }

    private void carryOut(Path path) throws IOException {
        int line = 0;
        for (String row : linesOf(path)) {
            line++;
            place = path.getFileName() + ":" + line;
            if (row.startsWith("section ")) {
                section = sections.get(row.substring(8));
            } else if (row.startsWith("> ")) {
                begin(row.substring(2));
            } else if (row.startsWith("~ ")) {
                // A reason why no call can show what the sentence says.
                isTested = true;
            } else if (!row.isEmpty() && !row.startsWith("#")) {
                isTested |= row.contains("=") || row.startsWith("fault ");
                rows.carryOut(row, place + " (" + sentence + ")");
            }
        }
        complainIfNotTested();
    }

    private void begin(String quote) {
        complainIfNotTested();
        sentence = quote;
        sentences++;
        isTested = false;
        rows.startAnew();
        if (section == null || !section.cover(quote)) {
            complain(quote, "does not stand there once in the document");
        }
    }

    private void complainIfNotTested() {
        if (!isTested) {
            complain(sentence, "has no test");
        }
    }

    private void complainOfWordsWithoutTest() {
        sections.forEach((title, one) -> {
            place = title;
            one.uncovered().forEach(words -> complain(words, "stands in no sentence with a test"));
        });
    }

    private void complain(String row, String why) {
        rows.wrong++;
        System.out.println(place + ": " + row + ": " + why);
    }

    /** A section of the document, and the part of it that has been quoted. */
    private static final class Section {
        private final StringBuilder text = new StringBuilder();
        private final BitSet covered = new BitSet();

        void append(String line) {
            text.append(line.replaceAll("\\s+", " ")).append(' ');
        }

        boolean cover(String quote) {
            int start = text.indexOf(quote);
            if (start < 0 || text.indexOf(quote, start + 1) >= 0) {
                return false;
            }
            covered.set(start, start + quote.length());
            return true;
        }

        /** The parts with letters or digits that no sentence has quoted. */
        List<String> uncovered() {
            List<String> parts = new ArrayList<>();
            int start = covered.nextClearBit(0);
            while (start < text.length()) {
                int end = covered.nextSetBit(start);
                end = end < 0 ? text.length() : end;
                String part = text.substring(start, end).strip();
                if (part.matches(".*[A-Za-z0-9].*")) {
                    parts.add(part);
                }
                start = covered.nextClearBit(end);
            }
            return parts.isEmpty() && text.length() == 0 ? List.of("(nothing)") : parts;
        }
    }
}
