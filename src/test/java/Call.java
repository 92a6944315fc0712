import java.util.Arrays;
import java.util.function.ToLongFunction;

/** One call with its arguments, to be made on any object. A boolean answer counts 1 or 0. */
record Call(String name, Object[] arguments, boolean changes, int refusal, ToLongFunction<CocoaYard> way) {
    long on(CocoaYard yard) {
        return way.applyAsLong(yard);
    }

    @Override
    public String toString() {
        String all = Arrays.toString(arguments);
        return name + "(" + all.substring(1, all.length() - 1) + ")";
    }
}
