import java.util.ArrayList;
import java.util.List;

/**
 * A yard that keeps its run of calls and can make it again on new objects: the document promises nothing of an object
 * beyond its 512th call, and to look at all that a yard shows takes far more.
 */
final class Yard {
    static final int MOST_CALLS = 512;

    private final CocoaYard object = new CocoaYard();
    private final List<Call> run = new ArrayList<>();
    private int made;
    private List<List<Call>> looks;
    private long[][] seen;

    private static void countTo(int calls) {
        if (calls > MOST_CALLS) {
            throw new IllegalStateException("the test uses an object for more than 512 calls");
        }
    }

    int made() {
        return made;
    }

    /** How many calls may follow the run on a new object. */
    int room() {
        return MOST_CALLS - run.size();
    }

    long make(Call call) {
        countTo(++made);
        if (call.changes()) {
            run.add(call);
            looks = null;
        }
        return call.on(object);
    }

    Yard and(Call... calls) {
        for (Call call : calls) {
            make(call);
        }
        return this;
    }

    Yard tell(String text) {
        for (Call call : Calls.feeds(text)) {
            make(call);
        }
        return this;
    }

    void due(Call call, long want) {
        Due.due(call, make(call), want);
    }

    /** The run made again, on a new object. */
    Yard again() {
        Yard other = new Yard();
        for (Call call : run) {
            other.make(call);
        }
        return other;
    }

    private CocoaYard newObject() {
        CocoaYard other = new CocoaYard();
        for (Call call : run) {
            call.on(other);
        }
        return other;
    }

    /** What a call would answer here; this yard stays as it is. */
    long ask(Call call) {
        countTo(run.size() + 1);
        return call.on(newObject());
    }

    void would(Call call, long want) {
        Due.due(call, ask(call), want);
    }

    /** Asks many calls that change nothing, on as many new objects as that takes. */
    void dueAll(List<Call> calls, List<Long> wants, String before) {
        CocoaYard it = newObject();
        int left = room();
        for (int i = 0; i < calls.size(); i++) {
            if (left == 0) {
                it = newObject();
                left = room();
            }
            Due.due(before + calls.get(i), calls.get(i).on(it), wants.get(i));
            left--;
        }
    }

    /** The call answers as what is refused, and behind it all that the other calls show is as it was. */
    void refuses(Call call) {
        if (!call.changes()) {
            throw new IllegalArgumentException(call + " asks only");
        }
        would(call, call.refusal());
        keepsAllBehind(call);
    }

    void refusesAll(Call... calls) {
        for (Call call : calls) {
            refuses(call);
        }
    }

    /** Makes a call that is answered so; behind it all that the other calls show is as it was. */
    void changesNothing(Call call, long want) {
        would(call, want);
        keepsAllBehind(call);
    }

    private void keepsAllBehind(Call call) {
        lookOnce();
        for (int i = 0; i < looks.size(); i++) {
            CocoaYard it = newObject();
            call.on(it);
            List<Call> look = looks.get(i);
            countTo(run.size() + 1 + look.size());
            for (int j = 0; j < look.size(); j++) {
                long got = look.get(j).on(it);
                if (got != seen[i][j]) {
                    Due.due(call + " and then " + look.subList(Math.max(0, j - 3), j + 1), got, seen[i][j]);
                    return;
                }
            }
        }
        Due.due("all behind " + call, 0, 0);
    }

    private void lookOnce() {
        if (looks != null) {
            return;
        }
        looks = Looks.of(this);
        seen = new long[looks.size()][];
        for (int i = 0; i < seen.length; i++) {
            CocoaYard it = newObject();
            List<Call> look = looks.get(i);
            seen[i] = new long[look.size()];
            for (int j = 0; j < look.size(); j++) {
                seen[i][j] = look.get(j).on(it);
            }
        }
    }
}
