import java.util.ArrayDeque;
import java.util.ArrayList;
import java.util.Arrays;
import java.util.Deque;
import java.util.List;
import java.util.TreeMap;
import java.util.regex.Matcher;
import java.util.regex.Pattern;

/**
 * A second implementation of DOC.md, as plain and wasteful as can be: it goes bit by bit, copies
 * whatever may be wanted again, and shares no code with the program.
 */
final class Model {
    private static final int BAD = -1, STATE = -2, FULL = -3, NONE = -9;
    private static final List<String> KINDS = List.of("rw", "ro", "wo", "wc", "ws", "wt", "rc", "on");

    private static final class Reg {
        int address;
        Integer lock;
        Integer gate;
    }

    private static final class Fld {
        int reg;
        String kind;
        int low;
        int high;
        int initial;
    }

    private static final class Als {
        int address;
        int reg;
        String kind;
    }

    private static final class Plan {
        final List<Reg> regs = new ArrayList<>();
        final List<Fld> flds = new ArrayList<>();
        final List<Als> alss = new ArrayList<>();
        int items;
    }

    private static final class Fault extends RuntimeException {
        private static final long serialVersionUID = 1L;
        final int index;

        Fault(int index) {
            this.index = index;
        }
    }

    /** A device or mirror: its values bit by bit. */
    private static final class Chip {
        final Plan plan;
        boolean[][] bits;
        String[] kinds;
        final TreeMap<Integer, Integer> held = new TreeMap<>();
        boolean[] letIn;

        Chip(Plan plan) {
            this.plan = plan;
            kinds = new String[plan.flds.size()];
            for (int f = 0; f < kinds.length; f++) {
                kinds[f] = plan.flds.get(f).kind;
            }
            reset();
        }

        Chip copy() {
            Chip c = new Chip(plan);
            for (int r = 0; r < bits.length; r++) {
                c.bits[r] = bits[r].clone();
            }
            c.kinds = kinds.clone();
            c.held.putAll(held);
            c.letIn = letIn.clone();
            return c;
        }

        void reset() {
            bits = new boolean[plan.regs.size()][8];
            letIn = new boolean[plan.regs.size()];
            held.clear();
            for (int f = 0; f < plan.flds.size(); f++) {
                set(f, plan.flds.get(f).initial);
            }
        }

        void set(int f, int v) {
            Fld fld = plan.flds.get(f);
            for (int b = fld.low; b <= fld.high; b++) {
                bits[fld.reg][b] = (v & 1) == 1;
                v /= 2;
            }
        }

        int get(int f) {
            Fld fld = plan.flds.get(f);
            int v = 0;
            for (int b = fld.high; b >= fld.low; b--) {
                v = 2 * v + (bits[fld.reg][b] ? 1 : 0);
            }
            return v;
        }

        boolean locked(int r) {
            Integer f = plan.regs.get(r).lock;
            return f != null && get(f) != 0;
        }

        int show(int r) {
            int v = 0;
            for (int b = 0; b < 8; b++) {
                int f = ownerOf(plan, r, b);
                if (f >= 0 && !kinds[f].equals("wo") && bits[r][b]) {
                    v += 1 << b;
                }
            }
            return v;
        }

        int peek(int address) {
            int to = targetOf(plan, address);
            if (to == NONE) {
                return 0;
            }
            return show(to >= 100 ? plan.alss.get(to - 100).reg : to);
        }

        int read(int address) {
            int answer = peek(address);
            int to = targetOf(plan, address);
            if (to >= 0 && to < 100) {
                for (int f = 0; f < kinds.length; f++) {
                    if (plan.flds.get(f).reg == to && kinds[f].equals("rc")) {
                        set(f, 0);
                    }
                }
            }
            return answer;
        }

        void write(int address, int v) {
            int to = targetOf(plan, address);
            if (to == NONE) {
                return;
            }
            boolean direct = to < 100;
            int r = direct ? to : plan.alss.get(to - 100).reg;
            if (locked(r)) {
                return;
            }
            if (direct && plan.regs.get(r).gate != null) {
                held.put(r, v);
                return;
            }
            enter(r, v, direct ? null : plan.alss.get(to - 100).kind);
            for (int other = 0; other < plan.regs.size(); other++) {
                Integer gate = plan.regs.get(other).gate;
                if (gate == null || plan.flds.get(gate).reg != r || !held.containsKey(other)) {
                    continue;
                }
                if ((v >> plan.flds.get(gate).low) % 2 == 1) {
                    int waiting = held.remove(other);
                    if (!locked(other)) {
                        enter(other, waiting, null);
                    }
                }
            }
        }

        private void enter(int r, int v, String aliasKind) {
            for (int b = 0; b < 8; b++) {
                int f = ownerOf(plan, r, b);
                if (f < 0) {
                    continue;
                }
                boolean one = (v >> b) % 2 == 1;
                String kind = kinds[f];
                if (aliasKind != null && !kind.equals("ro") && !kind.equals("rc")) {
                    kind = aliasKind;
                }
                if (kind.equals("rw") || kind.equals("wo") || (kind.equals("on") && !letIn[r])) {
                    bits[r][b] = one;
                } else if (kind.equals("wc") && one) {
                    bits[r][b] = false;
                } else if (kind.equals("ws") && one) {
                    bits[r][b] = true;
                } else if (kind.equals("wt") && one) {
                    bits[r][b] = !bits[r][b];
                }
            }
            if (aliasKind == null) {
                letIn[r] = true;
            }
        }
    }

    /** All that an undo or an image brings back. */
    private static final class All {
        Chip device;
        Chip mirror;
        List<int[]> log = new ArrayList<>();
        List<Integer> differences = new ArrayList<>();

        All copy() {
            All c = new All();
            c.device = device.copy();
            c.mirror = mirror.copy();
            c.log = new ArrayList<>(log);
            c.differences = new ArrayList<>(differences);
            return c;
        }
    }

    private static int ownerOf(Plan plan, int r, int bit) {
        for (int f = 0; f < plan.flds.size(); f++) {
            Fld fld = plan.flds.get(f);
            if (fld.reg == r && bit >= fld.low && bit <= fld.high) {
                return f;
            }
        }
        return -1;
    }

    private static int targetOf(Plan plan, int address) {
        for (int r = 0; r < plan.regs.size(); r++) {
            if (plan.regs.get(r).address == address) {
                return r;
            }
        }
        for (int a = 0; a < plan.alss.size(); a++) {
            if (plan.alss.get(a).address == address) {
                return 100 + a;
            }
        }
        return NONE;
    }

    private final StringBuilder text = new StringBuilder();
    private Plan plan = new Plan();
    private All all = new All();
    private final Deque<All> past = new ArrayDeque<>();
    private All[] images = new All[2];

    Model() {
        all.device = new Chip(plan);
        all.mirror = new Chip(plan);
    }

    // ---- the text

    /** The tokens of a text, with the place of each; where one can't stand it throws a Fault. */
    private static final class Reader {
        private static final Pattern TOKEN = Pattern.compile("[a-z]+|[0-9]+|[^ ]", Pattern.DOTALL);
        final List<String> tokens = new ArrayList<>();
        final List<Integer> places = new ArrayList<>();
        int next;

        Reader(String text) {
            Matcher m = TOKEN.matcher(text);
            while (m.find()) {
                tokens.add(m.group());
                places.add(m.start());
            }
            tokens.add("");
            places.add(text.length());
        }

        String take() {
            return tokens.get(next++);
        }

        /** The place of the token that was taken last is the fault. */
        Fault fault() {
            return new Fault(places.get(next - 1));
        }

        int number(int least, int most) {
            String t = take();
            for (int n = least; n <= most; n++) {
                if (t.equals(Integer.toString(n))) {
                    return n;
                }
            }
            throw fault();
        }

        String word(List<String> allowed) {
            String t = take();
            if (!allowed.contains(t)) {
                throw fault();
            }
            return t;
        }

        void end() {
            if (!take().equals(";")) {
                throw fault();
            }
        }
    }

    private static Plan parse(String text) {
        Plan p = new Plan();
        Reader in = new Reader(text);
        while (true) {
            String item = in.take();
            if (item.equals("")) {
                return p;
            }
            if (item.equals("r") && p.regs.size() < 6) {
                Reg r = new Reg();
                r.address = in.number(0, 15);
                in.end();
                p.regs.add(r);
            } else if (item.equals("f") && p.flds.size() < 12 && !p.regs.isEmpty()) {
                Fld f = parseField(p, in);
                in.end();
                p.flds.add(f);
            } else if (item.equals("a") && p.alss.size() < 4) {
                Als a = new Als();
                a.address = in.number(0, 15);
                a.reg = in.number(0, p.regs.size() - 1);
                a.kind = in.word(List.of("rw", "ro", "wc", "ws", "wt"));
                in.end();
                p.alss.add(a);
            } else if ((item.equals("k") || item.equals("s")) && !p.regs.isEmpty()) {
                parseBinding(p, in, item.equals("k"));
                in.end();
            } else {
                throw in.fault();
            }
            p.items++;
        }
    }

    private static Fld parseField(Plan p, Reader in) {
        Fld f = new Fld();
        f.reg = p.regs.size() - 1;
        f.kind = in.word(KINDS);
        f.low = in.number(0, 7);
        if (ownerOf(p, f.reg, f.low) >= 0) {
            throw in.fault();
        }
        f.high = in.number(f.low, 7);
        for (int b = f.low; b <= f.high; b++) {
            if (ownerOf(p, f.reg, b) >= 0) {
                throw in.fault();
            }
        }
        f.initial = in.number(0, (int) Math.pow(2, f.high - f.low + 1) - 1);
        return f;
    }

    private static void parseBinding(Plan p, Reader in, boolean isLock) {
        int number = in.number(0, p.regs.size() - 1);
        Reg r = p.regs.get(number);
        if ((isLock ? r.lock : r.gate) != null) {
            throw in.fault();
        }
        int f = in.number(0, p.flds.size() - 1);
        if (isLock) {
            r.lock = f;
            return;
        }
        if (p.flds.get(f).reg == number) {
            throw in.fault();
        }
        r.gate = f;
    }

    // ---- the face

    private static boolean bad(int x, int least, int most) {
        return x < least || x > most;
    }

    int type(int letter) {
        if (bad(letter, 0, 255)) {
            return BAD;
        }
        if (text.length() == 160) {
            return FULL;
        }
        text.append((char) letter);
        return text.length();
    }

    int clear() {
        int had = text.length();
        text.setLength(0);
        return had;
    }

    int tells() {
        Plan read;
        try {
            read = parse(text.toString());
        } catch (Fault fault) {
            return -10 - fault.index;
        }
        plan = read;
        all = new All();
        all.device = new Chip(plan);
        all.mirror = new Chip(plan);
        past.clear();
        images = new All[2];
        text.setLength(0);
        return plan.items;
    }

    private void remember() {
        past.addLast(all.copy());
        if (past.size() > 6) {
            past.removeFirst();
        }
    }

    int resets() {
        remember();
        int had = all.log.size();
        all.device.reset();
        all.mirror.reset();
        all.log.clear();
        all.differences.clear();
        return had;
    }

    int reads(int address) {
        if (bad(address, 0, 15)) {
            return BAD;
        }
        if (all.log.size() == 20) {
            return FULL;
        }
        remember();
        int byDevice = all.device.read(address);
        int byMirror = all.mirror.peek(address);
        all.differences.add(byDevice ^ byMirror);
        int to = targetOf(plan, address);
        if (to != NONE) {
            int r = to >= 100 ? plan.alss.get(to - 100).reg : to;
            for (int b = 0; b < 8; b++) {
                int f = ownerOf(plan, r, b);
                if (f >= 0 && !plan.flds.get(f).kind.equals("wo")) {
                    all.mirror.bits[r][b] = (byDevice >> b) % 2 == 1;
                }
            }
        }
        all.mirror.read(address);
        all.log.add(new int[] {address, 0, byDevice});
        return byDevice;
    }

    private static int changes(Chip before, Chip after) {
        int set = 0;
        for (int f = 0; f < before.kinds.length; f++) {
            if (before.get(f) != after.get(f)) {
                set += 1 << f;
            }
        }
        return set;
    }

    int writes(int address, int v) {
        if (bad(address, 0, 15) || bad(v, 0, 255)) {
            return BAD;
        }
        if (all.log.size() == 20) {
            return FULL;
        }
        remember();
        all.device.write(address, v);
        all.mirror.write(address, v);
        all.log.add(new int[] {address, 1, v});
        return changes(past.getLast().device, all.device);
    }

    private boolean fits(int f, int v) {
        if (bad(f, 0, plan.flds.size() - 1)) {
            return false;
        }
        Fld fld = plan.flds.get(f);
        return !bad(v, 0, (int) Math.pow(2, fld.high - fld.low + 1) - 1);
    }

    int sets(int f, int v) {
        if (!fits(f, v)) {
            return BAD;
        }
        int old = all.device.get(f);
        if (old == v) {
            return STATE;
        }
        remember();
        all.device.set(f, v);
        return old;
    }

    int breaks(int f, int kind) {
        if (bad(f, 0, plan.flds.size() - 1) || bad(kind, 0, 7)) {
            return BAD;
        }
        int old = KINDS.indexOf(all.device.kinds[f]);
        if (old == kind) {
            return STATE;
        }
        remember();
        all.device.kinds[f] = KINDS.get(kind);
        return old;
    }

    int undo() {
        if (past.isEmpty()) {
            return STATE;
        }
        all = past.removeLast();
        return past.size();
    }

    int field(int f, int what) {
        if (bad(f, 0, plan.flds.size() - 1) || bad(what, 0, 7)) {
            return BAD;
        }
        Fld fld = plan.flds.get(f);
        return new int[] {fld.reg, fld.low, fld.high, KINDS.indexOf(fld.kind), fld.initial,
            all.device.get(f), all.mirror.get(f), KINDS.indexOf(all.device.kinds[f])}[what];
    }

    int register(int r, int what) {
        if (bad(r, 0, plan.regs.size() - 1) || bad(what, 0, 4)) {
            return BAD;
        }
        Reg reg = plan.regs.get(r);
        return new int[] {reg.address, reg.lock == null ? NONE : reg.lock,
            reg.gate == null ? NONE : reg.gate, all.device.locked(r) ? 1 : 0,
            all.device.held.getOrDefault(r, NONE)}[what];
    }

    int alias(int a, int what) {
        if (bad(a, 0, plan.alss.size() - 1) || bad(what, 0, 2)) {
            return BAD;
        }
        Als als = plan.alss.get(a);
        return new int[] {als.address, als.reg, KINDS.indexOf(als.kind)}[what];
    }

    int at(int address) {
        return bad(address, 0, 15) ? BAD : targetOf(plan, address);
    }

    int peek(int address, int what) {
        if (bad(address, 0, 15) || bad(what, 0, 1)) {
            return BAD;
        }
        return List.of(all.device, all.mirror).get(what).peek(address);
    }

    int differed(int what) {
        if (bad(what, 0, 1)) {
            return BAD;
        }
        int reads = all.differences.size();
        if (what == 1) {
            return reads == 0 ? NONE : all.differences.get(reads - 1);
        }
        return (int) all.differences.stream().filter(d -> d != 0).count();
    }

    int log(int k, int what) {
        if (k < 0 || bad(what, 0, 2)) {
            return BAD;
        }
        return k < all.log.size() ? all.log.get(k)[what] : NONE;
    }

    private boolean replay(int f, String kind) {
        Chip chip = new Chip(plan);
        if (f >= 0) {
            chip.kinds[f] = kind;
        }
        for (int[] access : all.log) {
            if (access[1] == 1) {
                chip.write(access[0], access[2]);
            } else if (chip.read(access[0]) != access[2]) {
                return false;
            }
        }
        return true;
    }

    int suspects(int what) {
        if (bad(what, 0, 2)) {
            return BAD;
        }
        List<Integer> pairs = new ArrayList<>();
        for (int f = 0; f < plan.flds.size(); f++) {
            for (String kind : KINDS) {
                if (!kind.equals(plan.flds.get(f).kind) && replay(f, kind)) {
                    pairs.add(8 * f + KINDS.indexOf(kind));
                }
            }
        }
        if (what == 2) {
            return replay(-1, "") ? 1 : 0;
        }
        if (what == 0) {
            return pairs.size();
        }
        return pairs.isEmpty() ? NONE : pairs.get(0);
    }

    int clashes(int what) {
        if (bad(what, 0, 1)) {
            return BAD;
        }
        int[] having = new int[16];
        plan.regs.forEach(r -> having[r.address]++);
        plan.alss.forEach(a -> having[a.address]++);
        int[] clashing = java.util.stream.IntStream.range(0, 16).filter(i -> having[i] > 1).toArray();
        if (what == 0) {
            return clashing.length;
        }
        return Arrays.stream(clashing).findFirst().orElse(NONE);
    }

    int touched(int address, int v) {
        if (bad(address, 0, 15) || bad(v, 0, 255)) {
            return BAD;
        }
        Chip chip = all.device.copy();
        chip.write(address, v);
        return changes(all.device, chip);
    }

    int way(int f, int v) {
        if (!fits(f, v)) {
            return BAD;
        }
        for (int i = 0; i < 16 * 256; i++) {
            Chip chip = all.device.copy();
            chip.write(i / 256, i % 256);
            if (chip.get(f) == v) {
                return i;
            }
        }
        return NONE;
    }

    int walk(int k, int what) {
        if (k < -1 || bad(what, 0, 2)) {
            return BAD;
        }
        List<int[]> steps = new ArrayList<>();
        for (int r = 0; r < plan.regs.size(); r++) {
            if (isWalked(r)) {
                addSteps(steps, r);
            }
        }
        if (k == -1) {
            return steps.size();
        }
        return k < steps.size() ? steps.get(k)[what] : NONE;
    }

    private boolean isWalked(int r) {
        Reg reg = plan.regs.get(r);
        if (targetOf(plan, reg.address) != r || all.mirror.locked(r) || reg.gate != null) {
            return false;
        }
        for (int f = 0; f < plan.flds.size(); f++) {
            Fld fld = plan.flds.get(f);
            if (fld.reg == r) {
                int number = f;
                boolean opens = plan.regs.stream().anyMatch(x -> x.gate != null && x.gate == number);
                if (opens || List.of("wo", "rc", "on").contains(fld.kind)) {
                    return false;
                }
            }
        }
        return true;
    }

    private void addSteps(List<int[]> steps, int r) {
        for (int b = 0; b < 8; b++) {
            int f = ownerOf(plan, r, b);
            if (f < 0 || !plan.flds.get(f).kind.equals("rw")) {
                continue;
            }
            if (plan.regs.stream().anyMatch(x -> x.lock != null && x.lock == f)) {
                continue;
            }
            int written = 0;
            for (int c = 0; c < 8; c++) {
                int g = ownerOf(plan, r, c);
                if (g >= 0 && plan.flds.get(g).kind.equals("rw") && all.mirror.bits[r][c] != (c == b)) {
                    written += 1 << c;
                }
            }
            int address = plan.regs.get(r).address;
            steps.add(new int[] {address, written, all.mirror.peek(address) ^ (1 << b)});
        }
    }

    int keep(int image) {
        if (bad(image, 0, 1)) {
            return BAD;
        }
        images[image] = all.copy();
        return all.log.size();
    }

    int back(int image) {
        if (bad(image, 0, 1)) {
            return BAD;
        }
        if (images[image] == null) {
            return STATE;
        }
        all = images[image].copy();
        past.clear();
        return all.log.size();
    }

    int count(int what) {
        if (bad(what, 0, 7)) {
            return BAD;
        }
        int bits = plan.flds.stream().mapToInt(f -> f.high - f.low + 1).sum();
        int broken = 0;
        for (int f = 0; f < plan.flds.size(); f++) {
            if (!all.device.kinds[f].equals(plan.flds.get(f).kind)) {
                broken++;
            }
        }
        return new int[] {plan.regs.size(), plan.flds.size(), plan.alss.size(), bits,
            all.log.size(), broken, text.length(), past.size()}[what];
    }
}
