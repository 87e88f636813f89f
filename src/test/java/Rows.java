import java.util.ArrayList;
import java.util.Arrays;
import java.util.List;
import java.util.Set;
import java.util.TreeSet;

/** Carries out rows, whose form README.md tells, and prints every call that is wrong. */
final class Rows {
    private static final Set<String> QUESTIONS = Set.of("field", "register", "alias", "at", "peek", "differed",
        "log", "suspects", "clashes", "touched", "way", "walk", "count");

    final Set<String> called = new TreeSet<>();
    int calls;
    int wrong;

    private Subject subject = new Subject();
    private String place = "";

    void startAnew() {
        subject = new Subject();
    }

    /** Carries out a row; the place is printed with what is wrong. */
    void carryOut(String row, String where) {
        place = where;
        try {
            carryOut(row);
        } catch (RuntimeException e) {
            complain(row, e.toString());
        }
    }

    void complain(String row, String why) {
        wrong++;
        System.out.println(place + ": " + row + ": " + why);
    }

    private void carryOut(String row) {
        if (row.equals("new")) {
            startAnew();
        } else if (row.startsWith("text ")) {
            typeAll(row.substring(5));
        } else if (row.startsWith("fault ")) {
            carryOutFault(row.substring(6));
        } else {
            int equals = row.lastIndexOf('=');
            if (equals < 0) {
                throw new IllegalArgumentException("no answer is given");
            }
            carryOutCall(row.substring(0, equals).strip(), numbers(row.substring(equals + 1).strip()));
        }
    }

    private void carryOutCall(String call, int[] want) {
        if (call.equals("tell") || call.startsWith("tell ")) {
            subject.answer(new Call("clear"));
            typeAll(call.substring(4).stripLeading());
            check(new Call("tells"), want[0]);
        } else if (call.startsWith("constant ")) {
            calls++;
            if (number(call.substring(9)) != want[0]) {
                complain(call, "is not " + want[0]);
            }
        } else if (call.startsWith("times ")) {
            String[] parts = call.split(" ", 3);
            carryOutCalls(number(parts[1]), alternatives(parts[2]), want);
        } else {
            carryOutCalls(1, alternatives(call), want);
        }
    }

    /** Carries out each call so many times; all have one answer, or each its own. */
    private void carryOutCalls(int times, List<Call> all, int[] want) {
        if (want.length != 1 && want.length != all.size()) {
            throw new IllegalArgumentException(all.size() + " calls, but " + want.length + " answers");
        }
        for (int i = 0; i < all.size(); i++) {
            int answer = want[want.length == 1 ? 0 : i];
            for (int k = 1; k < times; k++) {
                due(all.get(i), subject.answer(all.get(i)), answer);
            }
            check(all.get(i), answer);
        }
    }

    /** A text on an object of its own, with a ^ before the first byte that can't stand there. */
    private void carryOutFault(String text) {
        int fault = text.indexOf('^');
        startAnew();
        typeAll(text.substring(0, fault) + text.substring(fault + 1));
        check(new Call("tells"), -10 - fault);
    }

    private void typeAll(String text) {
        // The sign _ is a blank that can be seen.
        for (char letter : text.replace('_', ' ').toCharArray()) {
            if (subject.answer(new Call("type", letter)) < 0) {
                throw new IllegalArgumentException("the text is too long");
            }
        }
    }

    /** Carries out a call; one that only asks, or that is refused, must not change anything. */
    private void check(Call call, int want) {
        int got = subject.answer(call);
        due(call, got, want);
        if (QUESTIONS.contains(call.name()) || isError(call, got)) {
            String trace = subject.traceOfLatest();
            if (trace != null) {
                complain(call.toString(), "has changed something: " + trace);
            }
        }
    }

    private static boolean isError(Call call, int got) {
        return got == MirrorBytes.BAD || got == MirrorBytes.STATE || got == MirrorBytes.FULL
            || call.name().equals("tells") && got < 0;
    }

    private void due(Call call, int got, int want) {
        calls++;
        called.add(call.name());
        if (got != want) {
            complain(call.toString(), "answered " + got + ", due is " + want);
        }
    }

    /** The calls that a row tells: one for each choice of what stands between the signs |. */
    private static List<Call> alternatives(String row) {
        String[] words = row.split(" +");
        List<int[]> choices = new ArrayList<>();
        choices.add(new int[words.length - 1]);
        for (int i = 1; i < words.length; i++) {
            List<int[]> more = new ArrayList<>();
            for (int[] begun : choices) {
                for (int value : numbers(words[i])) {
                    int[] one = begun.clone();
                    one[i - 1] = value;
                    more.add(one);
                }
            }
            choices = more;
        }
        List<Call> found = new ArrayList<>();
        for (int[] values : choices) {
            found.add(new Call(words[0], values));
        }
        return found;
    }

    private static int[] numbers(String words) {
        return Arrays.stream(words.split("\\|")).mapToInt(Rows::number).toArray();
    }

    private static int number(String word) {
        switch (word) {
            case "BAD": return MirrorBytes.BAD;
            case "STATE": return MirrorBytes.STATE;
            case "FULL": return MirrorBytes.FULL;
            case "NONE": return MirrorBytes.NONE;
            case "LEAST": return Integer.MIN_VALUE;
            case "GREATEST": return Integer.MAX_VALUE;
            default: return word.startsWith("0b") ? Integer.parseInt(word.substring(2), 2) : Integer.decode(word);
        }
    }
}
