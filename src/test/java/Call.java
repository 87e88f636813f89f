/** A call of a method of MirrorBytes. */
record Call(String name, int... values) {
    int on(MirrorBytes x) {
        switch (values.length) {
            case 0: return plain(x);
            case 1: return withOne(x, values[0]);
            case 2: return withTwo(x, values[0], values[1]);
            default: throw unknown();
        }
    }

    private int plain(MirrorBytes x) {
        switch (name) {
            case "clear": return x.clear();
            case "tells": return x.tells();
            case "resets": return x.resets();
            case "undo": return x.undo();
            default: throw unknown();
        }
    }

    private int withOne(MirrorBytes x, int a) {
        switch (name) {
            case "type": return x.type(a);
            case "reads": return x.reads(a);
            case "at": return x.at(a);
            case "differed": return x.differed(a);
            case "suspects": return x.suspects(a);
            case "clashes": return x.clashes(a);
            case "keep": return x.keep(a);
            case "back": return x.back(a);
            case "count": return x.count(a);
            default: throw unknown();
        }
    }

    private int withTwo(MirrorBytes x, int a, int b) {
        switch (name) {
            case "writes": return x.writes(a, b);
            case "sets": return x.sets(a, b);
            case "breaks": return x.breaks(a, b);
            case "field": return x.field(a, b);
            case "register": return x.register(a, b);
            case "alias": return x.alias(a, b);
            case "peek": return x.peek(a, b);
            case "log": return x.log(a, b);
            case "touched": return x.touched(a, b);
            case "way": return x.way(a, b);
            case "walk": return x.walk(a, b);
            default: throw unknown();
        }
    }

    private IllegalArgumentException unknown() {
        return new IllegalArgumentException("no such call: " + this);
    }

    @Override
    public String toString() {
        StringBuilder text = new StringBuilder(name);
        for (int value : values) {
            text.append(' ').append(value);
        }
        return text.toString();
    }
}
