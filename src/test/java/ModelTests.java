import java.util.ArrayList;
import java.util.List;
import java.util.Random;

/** Compares random runs of calls with the model; the same runs each time. */
public final class ModelTests {
    private static final String[] KINDS = {"rw", "ro", "wo", "wc", "ws", "wt", "rc", "on"};
    private static final String[] ALIAS_KINDS = {"rw", "ro", "wc", "ws", "wt"};
    private static final int RUNS = 4000;
    private static final int CALLS = 512;

    private final Random random;
    private final MirrorBytes program = new MirrorBytes();
    private final Model model = new Model();
    private final List<String> history = new ArrayList<>();
    private int registers;
    private int fields;
    private boolean wrong;

    private ModelTests(long seed) {
        random = new Random(seed);
    }

    public static void main(String[] args) {
        int runs = args.length > 0 ? Integer.parseInt(args[0]) : RUNS;
        int wrong = 0;
        for (int seed = 0; seed < runs && wrong < 5; seed++) {
            ModelTests test = new ModelTests(seed);
            test.carryOut(seed % 4);
            if (test.wrong) {
                wrong++;
                System.out.println("run " + seed + ":\n  " + String.join("\n  ", test.history));
            }
        }
        System.out.println(runs + " random runs, " + wrong + " wrong");
        if (wrong != 0) {
            System.exit(1);
        }
    }

    private void carryOut(int sort) {
        while (history.size() < CALLS && !wrong) {
            String text = sort == 3 ? damaged(blockText()) : blockText();
            typeAll(text);
            int before = history.size();
            call("tells");
            if (sort == 3) {
                continue;
            }
            int calls = sort == 0 ? 400 : 60;
            while (history.size() < Math.min(before + calls, CALLS) && !wrong) {
                randomCall();
            }
        }
    }

    private int upTo(int n) {
        return random.nextInt(n + 1);
    }

    private boolean chance(int percent) {
        return random.nextInt(100) < percent;
    }

    // ---- texts

    private String blockText() {
        registers = chance(5) ? 0 : 1 + random.nextInt(6);
        fields = 0;
        int[] owners = new int[12];
        StringBuilder text = new StringBuilder();
        for (int r = 0; r < registers; r++) {
            text.append('r').append(blank()).append(upTo(chance(60) ? 5 : 15)).append(";");
            int bit = 0;
            while (bit < 8 && fields < 12 && text.length() < 110 && chance(80)) {
                int low = Math.min(7, bit + (chance(70) ? 0 : upTo(2)));
                int high = Math.min(7, low + (chance(50) ? 0 : upTo(7)));
                text.append("f ").append(KINDS[upTo(7)]).append(blank()).append(low).append(' ').append(high);
                text.append(' ').append(upTo((1 << (high - low + 1)) - 1)).append(';');
                owners[fields++] = r;
                bit = high + 1;
            }
        }
        boolean[] bound = new boolean[12];
        for (int i = 0; i < 10 && registers > 0; i++) {
            appendBinding(text, owners, bound);
        }
        return text.length() > 160 ? text.substring(0, text.lastIndexOf(";", 159) + 1) : text.toString();
    }

    private void appendBinding(StringBuilder text, int[] owners, boolean[] bound) {
        int r = upTo(registers - 1);
        int aliases = text.toString().split("a").length - 1;
        if (chance(30) && aliases < 4) {
            text.append('a').append(upTo(chance(60) ? 6 : 15)).append(' ').append(r).append(blank());
            text.append(ALIAS_KINDS[upTo(4)]).append(';');
            return;
        }
        if (fields == 0) {
            return;
        }
        int f = upTo(fields - 1);
        boolean isLock = chance(35);
        int place = r + (isLock ? 0 : 6);
        if (bound[place] || (!isLock && owners[f] == r)) {
            return;
        }
        bound[place] = true;
        text.append(isLock ? 'k' : 's').append(blank()).append(r).append(' ').append(f).append(";");
    }

    private String blank() {
        return chance(20) ? " " : "";
    }

    private String damaged(String text) {
        StringBuilder b = new StringBuilder(text);
        for (int i = upTo(3); i > 0 && b.length() > 0; i--) {
            int at = upTo(b.length() - 1);
            String letters = "  ;;0123456789rfaksrwowcwtonz";
            char letter = chance(5) ? (char) upTo(255) : letters.charAt(upTo(letters.length() - 1));
            switch (upTo(4)) {
                case 0: b.deleteCharAt(at); break;
                case 1: b.setCharAt(at, letter); break;
                case 2: b.insert(at, letter); break;
                case 3: b.setLength(at); break;
                default: b.append(b.substring(at)); break;
            }
        }
        return b.toString();
    }

    private void typeAll(String text) {
        if (chance(90)) {
            call("clear");
        }
        for (char letter : text.toCharArray()) {
            if (history.size() < CALLS - 1) {
                call("type", letter);
            }
        }
    }

    // ---- calls

    private int address() {
        return chance(2) ? odd() : upTo(chance(75) ? 6 : 15);
    }

    private int value() {
        return chance(2) ? odd() : chance(40) ? upTo(7) : chance(30) ? 255 - upTo(7) : upTo(255);
    }

    private int fieldNumber() {
        return chance(2) ? odd() : upTo(Math.max(fields, 1));
    }

    private int fieldValue() {
        return chance(70) ? upTo(3) : value();
    }

    private int what(int most) {
        return chance(3) ? odd() : upTo(most);
    }

    private int odd() {
        int[] odds = {-1, -2, -9, 16, 256, 12, 20, 100, Integer.MIN_VALUE, Integer.MAX_VALUE};
        return odds[upTo(odds.length - 1)];
    }

    private void randomCall() {
        int n = upTo(99);
        if (n < 22) {
            call("writes", address(), value());
        } else if (n < 36) {
            call("reads", address());
        } else if (n < 41) {
            call("sets", fieldNumber(), fieldValue());
        } else if (n < 44) {
            call("breaks", fieldNumber(), what(7));
        } else if (n < 50) {
            call("undo");
        } else if (n < 52) {
            call("resets");
        } else if (n < 58) {
            call("field", fieldNumber(), what(7));
        } else if (n < 62) {
            call("register", what(6), what(4));
        } else if (n < 63) {
            call("alias", what(4), what(2));
        } else if (n < 64) {
            call("at", address());
        } else if (n < 69) {
            call("peek", address(), what(1));
        } else if (n < 73) {
            call("differed", what(1));
        } else if (n < 77) {
            call("log", what(21), what(2));
        } else if (n < 82) {
            call("suspects", what(2));
        } else if (n < 83) {
            call("clashes", what(1));
        } else if (n < 87) {
            call("touched", address(), value());
        } else if (n < 88) {
            call("way", fieldNumber(), fieldValue());
        } else if (n < 93) {
            call("walk", chance(20) ? -1 : what(12), what(2));
        } else if (n < 95) {
            call("keep", what(1));
        } else if (n < 96) {
            call("back", what(1));
        } else if (n < 99) {
            call("count", what(7));
        } else {
            call("type", value());
        }
    }

    private void call(String name, int... args) {
        int got = answer(name, args);
        int want = wanted(name, args);
        StringBuilder row = new StringBuilder(name);
        for (int arg : args) {
            row.append(' ').append(arg);
        }
        row.append(" = ").append(got);
        if (got != want) {
            wrong = true;
            row.append(", the model: ").append(want);
        }
        history.add(row.toString());
    }

    private int answer(String name, int[] a) {
        switch (name) {
            case "type": return program.type(a[0]);
            case "clear": return program.clear();
            case "tells": return program.tells();
            case "resets": return program.resets();
            case "reads": return program.reads(a[0]);
            case "writes": return program.writes(a[0], a[1]);
            case "sets": return program.sets(a[0], a[1]);
            case "breaks": return program.breaks(a[0], a[1]);
            case "undo": return program.undo();
            case "field": return program.field(a[0], a[1]);
            case "register": return program.register(a[0], a[1]);
            case "alias": return program.alias(a[0], a[1]);
            case "at": return program.at(a[0]);
            case "peek": return program.peek(a[0], a[1]);
            case "differed": return program.differed(a[0]);
            case "log": return program.log(a[0], a[1]);
            case "suspects": return program.suspects(a[0]);
            case "clashes": return program.clashes(a[0]);
            case "touched": return program.touched(a[0], a[1]);
            case "way": return program.way(a[0], a[1]);
            case "walk": return program.walk(a[0], a[1]);
            case "keep": return program.keep(a[0]);
            case "back": return program.back(a[0]);
            default: return program.count(a[0]);
        }
    }

    private int wanted(String name, int[] a) {
        switch (name) {
            case "type": return model.type(a[0]);
            case "clear": return model.clear();
            case "tells": return model.tells();
            case "resets": return model.resets();
            case "reads": return model.reads(a[0]);
            case "writes": return model.writes(a[0], a[1]);
            case "sets": return model.sets(a[0], a[1]);
            case "breaks": return model.breaks(a[0], a[1]);
            case "undo": return model.undo();
            case "field": return model.field(a[0], a[1]);
            case "register": return model.register(a[0], a[1]);
            case "alias": return model.alias(a[0], a[1]);
            case "at": return model.at(a[0]);
            case "peek": return model.peek(a[0], a[1]);
            case "differed": return model.differed(a[0]);
            case "log": return model.log(a[0], a[1]);
            case "suspects": return model.suspects(a[0]);
            case "clashes": return model.clashes(a[0]);
            case "touched": return model.touched(a[0], a[1]);
            case "way": return model.way(a[0], a[1]);
            case "walk": return model.walk(a[0], a[1]);
            case "keep": return model.keep(a[0]);
            case "back": return model.back(a[0]);
            default: return model.count(a[0]);
        }
    }
}
