import java.util.ArrayList;
import java.util.List;

/** An object under test that remembers its calls, so that others can be brought where it is. */
final class Subject {
    /** What later calls answer is free. */
    static final int MOST_CALLS = 512;

    private final MirrorBytes object = new MirrorBytes();
    private final List<Call> calls = new ArrayList<>();

    int answer(Call call) {
        if (calls.size() >= MOST_CALLS) {
            throw new IllegalStateException("more than " + MOST_CALLS + " calls of one object");
        }
        calls.add(call);
        return call.on(object);
    }

    /**
     * A call whose answer shows that the latest call has changed something; null if none does. It
     * asks other objects, which have had the same calls, with the latest one and without it.
     */
    String traceOfLatest() {
        for (List<Call> questions : Questions.ALL) {
            if (calls.size() + questions.size() > MOST_CALLS) {
                throw new IllegalStateException("too many calls of one object to ask what has changed");
            }
            MirrorBytes with = another(calls.size());
            MirrorBytes without = another(calls.size() - 1);
            for (Call question : questions) {
                int changed = question.on(with);
                int unchanged = question.on(without);
                if (changed != unchanged) {
                    return question + " answers " + changed + " in place of " + unchanged;
                }
            }
        }
        return null;
    }

    private MirrorBytes another(int length) {
        MirrorBytes x = new MirrorBytes();
        for (Call call : calls.subList(0, length)) {
            call.on(x);
        }
        return x;
    }
}
