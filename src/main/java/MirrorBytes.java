/** A register block of a hardware device, and a mirror of it as used in verification. */
public final class MirrorBytes {
    public static final int BAD = -1, STATE = -2, FULL = -3, NONE = -9;

    private static final int RW = 0, RO = 1, WO = 2, WC = 3, WS = 4, WT = 5, RC = 6, ON = 7;
    private static final int KINDS = 8;
    private static final char[] KIND_LETTERS = {
        'r', 'w', 'r', 'o', 'w', 'o', 'w', 'c', 'w', 's', 'w', 't', 'r', 'c', 'o', 'n'
    };

    private static final int ADDRESSES = 16;
    private static final int BITS = 8;
    private static final int BYTES = 256;
    private static final int MOST_REGISTERS = 6;
    private static final int MOST_FIELDS = 12;
    private static final int MOST_ALIASES = 4;
    private static final int MOST_TEXT = 160;
    private static final int MOST_ACCESSES = 20;
    private static final int MOST_UNDOS = 6;
    private static final int IMAGES = 2;
    private static final int FIRST_ALIAS = 100;
    private static final int FIRST_FAULT = -10;

    private final Text text = new Text();
    private final Parser parser = new Parser(text);
    private final Situation now = new Situation();
    private final History history = new History();
    private final Situation[] images = new Situation[IMAGES];
    private final boolean[] imageHeld = new boolean[IMAGES];
    // One device for all that is only tried out, so that no call makes objects.
    private final Device trial = new Device();
    private Block block = new Block();

    public MirrorBytes() {
        for (int i = 0; i < IMAGES; i++) {
            images[i] = new Situation();
        }
    }

    // ---- what is told

    public int type(int letter) {
        if (!isWithin(letter, BYTES)) {
            return BAD;
        }
        if (text.length >= MOST_TEXT) {
            return FULL;
        }
        text.append(letter);
        return text.length;
    }

    public int clear() {
        int had = text.length;
        text.length = 0;
        return had;
    }

    public int tells() {
        int answer = parser.parse();
        if (answer <= FIRST_FAULT) {
            return answer;
        }
        block = parser.exchange(block);
        text.length = 0;
        now.startWith(block);
        history.forget();
        for (int i = 0; i < IMAGES; i++) {
            imageHeld[i] = false;
        }
        return answer;
    }

    // ---- what is done

    public int resets() {
        history.remember(now);
        int had = now.journal.length;
        now.restart(block);
        return had;
    }

    public int reads(int address) {
        if (!isWithin(address, ADDRESSES)) {
            return BAD;
        }
        if (now.journal.length >= MOST_ACCESSES) {
            return FULL;
        }
        history.remember(now);
        return now.performRead(block, address);
    }

    public int writes(int address, int v) {
        if (!isWithin(address, ADDRESSES) || !isWithin(v, BYTES)) {
            return BAD;
        }
        if (now.journal.length >= MOST_ACCESSES) {
            return FULL;
        }
        history.remember(now);
        int changed = changedBy(address, v);
        now.performWrite(block, address, v);
        return changed;
    }

    public int sets(int f, int v) {
        if (!block.canHold(f, v)) {
            return BAD;
        }
        int old = now.device.valueOf(block, f);
        if (old == v) {
            return STATE;
        }
        history.remember(now);
        now.device.putValue(block, f, v);
        return old;
    }

    public int breaks(int f, int kind) {
        if (!isWithin(f, block.fields) || !isWithin(kind, KINDS)) {
            return BAD;
        }
        int old = now.device.kinds[f];
        if (old == kind) {
            return STATE;
        }
        history.remember(now);
        now.device.kinds[f] = kind;
        return old;
    }

    public int undo() {
        if (history.length == 0) {
            return STATE;
        }
        history.recall(now);
        return history.length;
    }

    // ---- as it is

    public int field(int f, int what) {
        if (!isWithin(f, block.fields)) {
            return BAD;
        }
        switch (what) {
            case 0: return block.owner[f];
            case 1: return block.low[f];
            case 2: return block.high[f];
            case 3: return block.kind[f];
            case 4: return block.initial[f];
            case 5: return now.device.valueOf(block, f);
            case 6: return now.mirror.valueOf(block, f);
            case 7: return now.device.kinds[f];
            default: return BAD;
        }
    }

    public int register(int r, int what) {
        if (!isWithin(r, block.registers)) {
            return BAD;
        }
        switch (what) {
            case 0: return block.address[r];
            case 1: return block.lock[r];
            case 2: return block.gate[r];
            case 3: return now.device.isLocked(block, r) ? 1 : 0;
            case 4: return now.device.held[r];
            default: return BAD;
        }
    }

    public int alias(int a, int what) {
        if (!isWithin(a, block.aliases)) {
            return BAD;
        }
        switch (what) {
            case 0: return block.aliasAddress[a];
            case 1: return block.aliasRegister[a];
            case 2: return block.aliasKind[a];
            default: return BAD;
        }
    }

    public int at(int address) {
        if (!isWithin(address, ADDRESSES)) {
            return BAD;
        }
        int a = block.aliasAt(address);
        return a == NONE ? block.registerAt(address) : FIRST_ALIAS + a;
    }

    public int peek(int address, int what) {
        if (!isWithin(address, ADDRESSES) || !isWithin(what, 2)) {
            return BAD;
        }
        return what == 0 ? now.device.look(block, address) : now.mirror.look(block, address);
    }

    public int differed(int what) {
        switch (what) {
            case 0: return now.differing;
            case 1: return now.latestDifference;
            default: return BAD;
        }
    }

    public int log(int k, int what) {
        if (k < 0 || !isWithin(what, 3)) {
            return BAD;
        }
        if (k >= now.journal.length) {
            return NONE;
        }
        switch (what) {
            case 0: return now.journal.address[k];
            case 1: return now.journal.isWrite[k] ? 1 : 0;
            default: return now.journal.content[k];
        }
    }

    // ---- what could be

    public int suspects(int what) {
        if (!isWithin(what, 3)) {
            return BAD;
        }
        if (what == 2) {
            return wouldReadTheSame(NONE, NONE) ? 1 : 0;
        }
        int found = 0;
        for (int f = 0; f < block.fields; f++) {
            for (int kind = 0; kind < KINDS; kind++) {
                if (kind == block.kind[f] || !wouldReadTheSame(f, kind)) {
                    continue;
                }
                if (what == 1) {
                    return KINDS * f + kind;
                }
                found++;
            }
        }
        return what == 1 ? NONE : found;
    }

    public int clashes(int what) {
        if (!isWithin(what, 2)) {
            return BAD;
        }
        int found = 0;
        int lowest = NONE;
        for (int address = ADDRESSES - 1; address >= 0; address--) {
            if (block.holdersOf(address) > 1) {
                found++;
                lowest = address;
            }
        }
        return what == 0 ? found : lowest;
    }

    public int touched(int address, int v) {
        if (!isWithin(address, ADDRESSES) || !isWithin(v, BYTES)) {
            return BAD;
        }
        return changedBy(address, v);
    }

    public int way(int f, int v) {
        if (!block.canHold(f, v)) {
            return BAD;
        }
        for (int address = 0; address < ADDRESSES; address++) {
            int content = byteThatGives(address, f, v);
            if (content != NONE) {
                return BYTES * address + content;
            }
        }
        return NONE;
    }

    public int walk(int k, int what) {
        if (k < -1 || !isWithin(what, 3)) {
            return BAD;
        }
        int steps = 0;
        for (int r = 0; r < block.registers; r++) {
            int bits = walkedBits(r);
            for (int i = 0; i < BITS; i++) {
                int bit = 1 << i;
                if ((bits & bit) == 0) {
                    continue;
                }
                if (steps == k) {
                    return stepOfWalk(r, bit, what);
                }
                steps++;
            }
        }
        return k == -1 ? steps : NONE;
    }

    // ---- images

    public int keep(int image) {
        if (!isWithin(image, IMAGES)) {
            return BAD;
        }
        images[image].copyFrom(now);
        imageHeld[image] = true;
        return now.journal.length;
    }

    public int back(int image) {
        if (!isWithin(image, IMAGES)) {
            return BAD;
        }
        if (!imageHeld[image]) {
            return STATE;
        }
        now.copyFrom(images[image]);
        history.forget();
        return now.journal.length;
    }

    public int count(int what) {
        switch (what) {
            case 0: return block.registers;
            case 1: return block.fields;
            case 2: return block.aliases;
            case 3: return block.bitsOfFields();
            case 4: return now.journal.length;
            case 5: return now.device.brokenFields(block);
            case 6: return text.length;
            case 7: return history.length;
            default: return BAD;
        }
    }

    // ---- helpers of the methods above

    private static boolean isWithin(int x, int bound) {
        return x >= 0 && x < bound;
    }

    /** The set of fields whose values in the device a write would change. */
    private int changedBy(int address, int v) {
        trial.copyFrom(now.device);
        trial.write(block, address, v);
        int changed = 0;
        for (int f = 0; f < block.fields; f++) {
            if (trial.valueOf(block, f) != now.device.valueOf(block, f)) {
                changed |= 1 << f;
            }
        }
        return changed;
    }

    /** The lowest byte that, written to the address, leaves the value in the field. */
    private int byteThatGives(int address, int f, int value) {
        // A write that can't reach the field does the same with every byte.
        int bytes = block.canReach(address, f) ? BYTES : 1;
        for (int v = 0; v < bytes; v++) {
            trial.copyFrom(now.device);
            trial.write(block, address, v);
            if (trial.valueOf(block, f) == value) {
                return v;
            }
        }
        return NONE;
    }

    /** Whether the reads of the log would be the same if f alone were broken; f may be NONE. */
    private boolean wouldReadTheSame(int f, int kind) {
        trial.mend(block);
        if (isWithin(f, block.fields)) {
            trial.kinds[f] = kind;
        }
        trial.restart(block);
        return now.journal.agreesWith(trial, block);
    }

    /** The bits of a register for which the walk has a step. */
    private int walkedBits(int r) {
        if (block.registerAt(block.address[r]) != r || block.gate[r] != NONE
                || now.mirror.isLocked(block, r)) {
            return 0;
        }
        int bits = 0;
        for (int f = 0; f < block.fields; f++) {
            if (block.owner[f] != r) {
                continue;
            }
            int kind = block.kind[f];
            if (kind == WO || kind == RC || kind == ON || block.isGate(f)) {
                return 0;
            }
            if (kind == RW && !block.isLock(f)) {
                bits |= block.mask[f];
            }
        }
        return bits;
    }

    private int stepOfWalk(int r, int bit, int what) {
        switch (what) {
            case 0: return block.address[r];
            case 1: return (now.mirror.content[r] & block.plainBits(r)) ^ bit;
            default: return now.mirror.shown(block, r) ^ bit;
        }
    }

    // ---- the classes inside

    /** The registers, fields and aliases as a text gives them. */
    private static final class Block {
        int registers;
        int fields;
        int aliases;
        final int[] address = new int[MOST_REGISTERS];
        final int[] lock = new int[MOST_REGISTERS];
        final int[] gate = new int[MOST_REGISTERS];
        final int[] owner = new int[MOST_FIELDS];
        final int[] kind = new int[MOST_FIELDS];
        final int[] low = new int[MOST_FIELDS];
        final int[] high = new int[MOST_FIELDS];
        final int[] mask = new int[MOST_FIELDS];
        final int[] initial = new int[MOST_FIELDS];
        final int[] aliasAddress = new int[MOST_ALIASES];
        final int[] aliasRegister = new int[MOST_ALIASES];
        final int[] aliasKind = new int[MOST_ALIASES];

        void empty() {
            registers = 0;
            fields = 0;
            aliases = 0;
        }

        int greatestValue(int f) {
            return mask[f] >> low[f];
        }

        /** Whether there is a field f and the value fits into its bits. */
        boolean canHold(int f, int value) {
            return isWithin(f, fields) && value >= 0 && value <= greatestValue(f);
        }

        /** The bits of a register that belong to its fields. */
        int usedBits(int r) {
            int bits = 0;
            for (int f = 0; f < fields; f++) {
                if (owner[f] == r) {
                    bits |= mask[f];
                }
            }
            return bits;
        }

        /** The bits of a register that belong to fields of kind rw. */
        int plainBits(int r) {
            int bits = 0;
            for (int f = 0; f < fields; f++) {
                if (owner[f] == r && kind[f] == RW) {
                    bits |= mask[f];
                }
            }
            return bits;
        }

        int bitsOfFields() {
            int bits = 0;
            for (int f = 0; f < fields; f++) {
                bits += Integer.bitCount(mask[f]);
            }
            return bits;
        }

        int registerAt(int place) {
            for (int r = 0; r < registers; r++) {
                if (address[r] == place) {
                    return r;
                }
            }
            return NONE;
        }

        /** The alias to which an access goes; NONE where a register has the address. */
        int aliasAt(int place) {
            if (registerAt(place) != NONE) {
                return NONE;
            }
            for (int a = 0; a < aliases; a++) {
                if (aliasAddress[a] == place) {
                    return a;
                }
            }
            return NONE;
        }

        /** The register that an access concerns, be it by an alias; NONE if it goes to nowhere. */
        int registerBehind(int place) {
            int a = aliasAt(place);
            return a == NONE ? registerAt(place) : aliasRegister[a];
        }

        /** How many of all registers and aliases have the address. */
        int holdersOf(int place) {
            int holders = 0;
            for (int r = 0; r < registers; r++) {
                if (address[r] == place) {
                    holders++;
                }
            }
            for (int a = 0; a < aliases; a++) {
                if (aliasAddress[a] == place) {
                    holders++;
                }
            }
            return holders;
        }

        boolean isLock(int f) {
            for (int r = 0; r < registers; r++) {
                if (lock[r] == f) {
                    return true;
                }
            }
            return false;
        }

        boolean isGate(int f) {
            for (int r = 0; r < registers; r++) {
                if (gate[r] == f) {
                    return true;
                }
            }
            return false;
        }

        /** Whether the gate of register r is a field of the register "opener". */
        boolean isOpenedBy(int r, int opener) {
            int f = gate[r];
            return isWithin(f, fields) && owner[f] == opener;
        }

        /** Whether a write to the address may let something into the register of f. */
        boolean canReach(int place, int f) {
            int r = registerBehind(place);
            return r != NONE && (r == owner[f] || isOpenedBy(owner[f], r));
        }
    }

    /** The changing part of a device or of its mirror; the block is handed to it in each call. */
    private static final class Device {
        // By register; a bit that belongs to no field stays 0.
        final int[] content = new int[MOST_REGISTERS];
        final int[] held = new int[MOST_REGISTERS];
        final boolean[] entered = new boolean[MOST_REGISTERS];
        final int[] kinds = new int[MOST_FIELDS];

        void copyFrom(Device other) {
            for (int r = 0; r < MOST_REGISTERS; r++) {
                content[r] = other.content[r];
                held[r] = other.held[r];
                entered[r] = other.entered[r];
            }
            System.arraycopy(other.kinds, 0, kinds, 0, MOST_FIELDS);
        }

        /** Gives all fields the kinds of the text. */
        void mend(Block block) {
            System.arraycopy(block.kind, 0, kinds, 0, MOST_FIELDS);
        }

        void restart(Block block) {
            for (int r = 0; r < MOST_REGISTERS; r++) {
                content[r] = 0;
                held[r] = NONE;
                entered[r] = false;
            }
            for (int f = 0; f < block.fields; f++) {
                putValue(block, f, block.initial[f]);
            }
        }

        int valueOf(Block block, int f) {
            return (content[block.owner[f]] & block.mask[f]) >> block.low[f];
        }

        void putValue(Block block, int f, int value) {
            putBits(block, f, value << block.low[f]);
        }

        /** Puts those of the bits that belong to the field. */
        void putBits(Block block, int f, int bits) {
            int r = block.owner[f];
            content[r] = (content[r] & ~block.mask[f]) | (bits & block.mask[f]);
        }

        int brokenFields(Block block) {
            int broken = 0;
            for (int f = 0; f < block.fields; f++) {
                if (kinds[f] != block.kind[f]) {
                    broken++;
                }
            }
            return broken;
        }

        boolean isLocked(Block block, int r) {
            int f = block.lock[r];
            return isWithin(f, block.fields) && valueOf(block, f) != 0;
        }

        /** What a read of the register would return. */
        int shown(Block block, int r) {
            int bits = content[r];
            for (int f = 0; f < block.fields; f++) {
                if (block.owner[f] == r && kinds[f] == WO) {
                    bits &= ~block.mask[f];
                }
            }
            return bits;
        }

        /** What a read at the address would return. */
        int look(Block block, int address) {
            int r = block.registerBehind(address);
            return r == NONE ? 0 : shown(block, r);
        }

        int read(Block block, int address) {
            int seen = look(block, address);
            int r = block.registerAt(address);
            for (int f = 0; f < block.fields; f++) {
                if (block.owner[f] == r && kinds[f] == RC) {
                    putBits(block, f, 0);
                }
            }
            return seen;
        }

        /** Takes over the byte that a read at the address has returned, but where it can't show. */
        void learn(Block block, int address, int seen) {
            int r = block.registerBehind(address);
            for (int f = 0; f < block.fields; f++) {
                if (block.owner[f] == r && kinds[f] != WO) {
                    putBits(block, f, seen);
                }
            }
        }

        void write(Block block, int address, int v) {
            int r = block.registerBehind(address);
            if (r == NONE || isLocked(block, r)) {
                return;
            }
            int a = block.aliasAt(address);
            if (a != NONE) {
                letInByAlias(block, r, v, block.aliasKind[a]);
            } else if (block.gate[r] == NONE) {
                letIn(block, r, v);
            } else {
                held[r] = v;
                return;
            }
            openGates(block, r, v);
        }

        /** Lets a byte in as a write to the register itself does. */
        void letIn(Block block, int r, int v) {
            for (int f = 0; f < block.fields; f++) {
                if (block.owner[f] == r) {
                    putBits(block, f, bitsAfter(r, v, kinds[f]));
                }
            }
            entered[r] = true;
        }

        void letInByAlias(Block block, int r, int v, int kind) {
            for (int f = 0; f < block.fields; f++) {
                if (block.owner[f] == r && kinds[f] != RO && kinds[f] != RC) {
                    putBits(block, f, bitsAfter(r, v, kind));
                }
            }
        }

        /** What the register would hold after v if all its bits were of the kind. */
        int bitsAfter(int r, int v, int kind) {
            switch (kind) {
                case RW:
                case WO:
                    return v;
                case WC:
                    return content[r] & ~v;
                case WS:
                    return content[r] | v;
                case WT:
                    return content[r] ^ v;
                case ON:
                    return entered[r] ? content[r] : v;
                default:
                    return content[r];
            }
        }

        /** Lets in what is held for the fields of the register "opener", into which v has come. */
        void openGates(Block block, int opener, int v) {
            for (int r = 0; r < block.registers; r++) {
                if (held[r] == NONE || !block.isOpenedBy(r, opener)
                        || (v >> block.low[block.gate[r]] & 1) == 0) {
                    continue;
                }
                if (!isLocked(block, r)) {
                    letIn(block, r, held[r]);
                }
                held[r] = NONE;
            }
        }
    }

    /** The accesses since the last reset. */
    private static final class Journal {
        int length;
        final int[] address = new int[MOST_ACCESSES];
        final boolean[] isWrite = new boolean[MOST_ACCESSES];
        final int[] content = new int[MOST_ACCESSES];

        void copyFrom(Journal other) {
            length = other.length;
            for (int k = 0; k < MOST_ACCESSES; k++) {
                address[k] = other.address[k];
                isWrite[k] = other.isWrite[k];
                content[k] = other.content[k];
            }
        }

        void append(int place, boolean write, int v) {
            if (length >= MOST_ACCESSES) {
                return;
            }
            address[length] = place;
            isWrite[length] = write;
            content[length] = v;
            length++;
        }

        /** Carries out the accesses; whether all reads return what stands here. */
        boolean agreesWith(Device device, Block block) {
            for (int k = 0; k < length; k++) {
                if (isWrite[k]) {
                    device.write(block, address[k], content[k]);
                } else if (device.read(block, address[k]) != content[k]) {
                    return false;
                }
            }
            return true;
        }
    }

    /** All that undo and images bring back. */
    private static final class Situation {
        final Device device = new Device();
        final Device mirror = new Device();
        final Journal journal = new Journal();
        int differing;
        int latestDifference = NONE;

        void copyFrom(Situation other) {
            device.copyFrom(other.device);
            mirror.copyFrom(other.mirror);
            journal.copyFrom(other.journal);
            differing = other.differing;
            latestDifference = other.latestDifference;
        }

        void startWith(Block block) {
            device.mend(block);
            mirror.mend(block);
            restart(block);
        }

        void restart(Block block) {
            device.restart(block);
            mirror.restart(block);
            journal.length = 0;
            differing = 0;
            latestDifference = NONE;
        }

        int performRead(Block block, int address) {
            int seen = device.read(block, address);
            latestDifference = seen ^ mirror.look(block, address);
            if (latestDifference != 0) {
                differing++;
            }
            mirror.learn(block, address, seen);
            mirror.read(block, address);
            journal.append(address, false, seen);
            return seen;
        }

        void performWrite(Block block, int address, int v) {
            device.write(block, address, v);
            mirror.write(block, address, v);
            journal.append(address, true, v);
        }
    }

    /** What was before the last calls that can be undone: a ring of which the oldest falls out. */
    private static final class History {
        final Situation[] before = new Situation[MOST_UNDOS];
        int next;
        int length;

        History() {
            for (int i = 0; i < MOST_UNDOS; i++) {
                before[i] = new Situation();
            }
        }

        void forget() {
            length = 0;
        }

        void remember(Situation now) {
            before[next].copyFrom(now);
            next = (next + 1) % MOST_UNDOS;
            length = Math.min(length + 1, MOST_UNDOS);
        }

        void recall(Situation now) {
            next = (next + MOST_UNDOS - 1) % MOST_UNDOS;
            length--;
            now.copyFrom(before[next]);
        }
    }

    /** The bytes that have been typed. */
    private static final class Text {
        final int[] content = new int[MOST_TEXT];
        int length;

        void append(int letter) {
            if (length < MOST_TEXT) {
                content[length] = letter;
                length++;
            }
        }

        boolean isLetter(int i) {
            return content[i] >= 'a' && content[i] <= 'z';
        }

        boolean isDigit(int i) {
            return content[i] >= '0' && content[i] <= '9';
        }
    }

    /** The tokens of a text, one at a time: the present one goes from start to end. */
    private static final class Tokens {
        static final int OTHER = 0, WORD = 1, NUMBER = 2, SEMICOLON = 3, NOTHING = 4;

        final Text text;
        int start;
        int end;
        int sort;

        Tokens(Text text) {
            this.text = text;
        }

        void rewind() {
            end = 0;
        }

        void advance() {
            start = end;
            while (start < text.length && text.content[start] == ' ') {
                start++;
            }
            end = start;
            if (start >= text.length) {
                sort = NOTHING;
            } else if (text.isLetter(start)) {
                sort = WORD;
                while (end < text.length && text.isLetter(end)) {
                    end++;
                }
            } else if (text.isDigit(start)) {
                sort = NUMBER;
                while (end < text.length && text.isDigit(end)) {
                    end++;
                }
            } else {
                sort = text.content[start] == ';' ? SEMICOLON : OTHER;
                end++;
            }
        }

        /** The letter of a word of one letter; NONE for every other token. */
        int letter() {
            return sort == WORD && end - start == 1 ? text.content[start] : NONE;
        }

        /** The kind whose word this is; NONE for every other token. */
        int kind() {
            if (sort != WORD || end - start != 2) {
                return NONE;
            }
            for (int k = 0; k < KINDS; k++) {
                if (text.content[start] == KIND_LETTERS[2 * k]
                        && text.content[start + 1] == KIND_LETTERS[2 * k + 1]) {
                    return k;
                }
            }
            return NONE;
        }

        /** The number, if it has no leading zero and at most three digits; NONE otherwise. */
        int number() {
            int digits = end - start;
            if (sort != NUMBER || digits > 3 || (digits > 1 && text.content[start] == '0')) {
                return NONE;
            }
            int value = 0;
            for (int i = start; i < end; i++) {
                value = 10 * value + text.content[i] - '0';
            }
            return value;
        }
    }

    /** Reads a block from the text; where it stops, the present token is the faulty one. */
    private static final class Parser {
        final Tokens tokens;
        Block block = new Block();

        Parser(Text text) {
            tokens = new Tokens(text);
        }

        /** Hands out the block that has been read, for another one to be filled next time. */
        Block exchange(Block other) {
            Block filled = block;
            block = other;
            return filled;
        }

        /** Fills the block; the number of items, or -10 minus the fault. */
        int parse() {
            block.empty();
            tokens.rewind();
            // No text has more items than bytes.
            for (int items = 0; items <= MOST_TEXT; items++) {
                tokens.advance();
                if (tokens.sort == Tokens.NOTHING) {
                    return items;
                }
                if (!readItem()) {
                    break;
                }
            }
            return FIRST_FAULT - tokens.start;
        }

        boolean readItem() {
            switch (tokens.letter()) {
                case 'r': return readRegister();
                case 'f': return readField();
                case 'a': return readAlias();
                case 'k': return readLock();
                case 's': return readGate();
                default: return false;
            }
        }

        boolean readRegister() {
            int r = block.registers;
            if (r >= MOST_REGISTERS || !takeNumber(0, ADDRESSES - 1)) {
                return false;
            }
            block.address[r] = tokens.number();
            block.lock[r] = NONE;
            block.gate[r] = NONE;
            block.registers++;
            return takeSemicolon();
        }

        boolean readField() {
            int f = block.fields;
            int r = block.registers - 1;
            if (f >= MOST_FIELDS || r < 0 || !takeKind()) {
                return false;
            }
            block.owner[f] = r;
            block.kind[f] = tokens.kind();
            int used = block.usedBits(r);
            if (!takeNumber(0, BITS - 1)) {
                return false;
            }
            int low = tokens.number();
            if ((used >> low & 1) != 0 || !takeNumber(low, BITS - 1)) {
                return false;
            }
            int high = tokens.number();
            int mask = (2 << high) - (1 << low);
            if ((used & mask) != 0 || !takeNumber(0, mask >> low)) {
                return false;
            }
            block.low[f] = low;
            block.high[f] = high;
            block.mask[f] = mask;
            block.initial[f] = tokens.number();
            block.fields++;
            return takeSemicolon();
        }

        boolean readAlias() {
            int a = block.aliases;
            if (a >= MOST_ALIASES || !takeNumber(0, ADDRESSES - 1)) {
                return false;
            }
            block.aliasAddress[a] = tokens.number();
            if (!takeNumber(0, block.registers - 1)) {
                return false;
            }
            block.aliasRegister[a] = tokens.number();
            if (!takeKind() || !suitsAlias(tokens.kind())) {
                return false;
            }
            block.aliasKind[a] = tokens.kind();
            block.aliases++;
            return takeSemicolon();
        }

        static boolean suitsAlias(int kind) {
            return kind == RW || kind == RO || kind == WC || kind == WS || kind == WT;
        }

        boolean readLock() {
            if (block.registers == 0 || !takeNumber(0, block.registers - 1)) {
                return false;
            }
            int r = tokens.number();
            if (block.lock[r] != NONE || !takeNumber(0, block.fields - 1)) {
                return false;
            }
            block.lock[r] = tokens.number();
            return takeSemicolon();
        }

        boolean readGate() {
            if (block.registers == 0 || !takeNumber(0, block.registers - 1)) {
                return false;
            }
            int r = tokens.number();
            if (block.gate[r] != NONE || !takeNumber(0, block.fields - 1)) {
                return false;
            }
            int f = tokens.number();
            if (block.owner[f] == r) {
                return false;
            }
            block.gate[r] = f;
            return takeSemicolon();
        }

        boolean takeNumber(int least, int greatest) {
            tokens.advance();
            int number = tokens.number();
            return number != NONE && number >= least && number <= greatest;
        }

        boolean takeKind() {
            tokens.advance();
            return tokens.kind() != NONE;
        }

        boolean takeSemicolon() {
            tokens.advance();
            return tokens.sort == Tokens.SEMICOLON;
        }
    }
}
