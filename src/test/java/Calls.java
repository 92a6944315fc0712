import java.util.ArrayList;
import java.util.List;
import java.util.function.ToLongFunction;

/** The calls of the face by their names, for tests that extend this: nothing can be imported from the unnamed package. */
abstract class Calls {
    static final int NONE = CocoaYard.NONE;
    static final int LEAST = Integer.MIN_VALUE;
    static final int MOST = Integer.MAX_VALUE;

    /** Out of every bound in the document, the greatest of which is 1,000,000; some are valid in their low bytes. */
    static final int[] FAR = {LEAST, LEAST + 1, -(1 << 30), -(1 << 24), -65_536, -256, -100, -2,
        1 << 24, 1 << 30, (1 << 30) + 1, MOST - 1, MOST};

    private static Call change(String name, ToLongFunction<CocoaYard> way, Object... arguments) {
        return new Call(name, arguments, true, NONE, way);
    }

    /** A change that is refused by false. */
    private static Call trial(String name, ToLongFunction<CocoaYard> way, Object... arguments) {
        return new Call(name, arguments, true, 0, way);
    }

    private static Call question(String name, ToLongFunction<CocoaYard> way, Object... arguments) {
        return new Call(name, arguments, false, NONE, way);
    }

    static Call vessel(int kind) {
        return change("vessel", y -> y.vessel(kind), kind);
    }

    static Call buy(int vessel, int plot, int grams, int wetness) {
        return change("buy", y -> y.buy(vessel, plot, grams, wetness), vessel, plot, grams, wetness);
    }

    static Call move(int from, int to, int grams) {
        return change("move", y -> y.move(from, to, grams), from, to, grams);
    }

    static Call turn(int box) {
        return trial("turn", y -> y.turn(box) ? 1 : 0, box);
    }

    static Call cover(int tray, boolean is) {
        return trial("cover", y -> y.cover(tray, is) ? 1 : 0, tray, is);
    }

    static Call day(int sun, boolean rain) {
        return change("day", y -> y.day(sun, rain), sun, rain);
    }

    static Call cut(int sack, int mouldy, int slaty, int flat) {
        return change("cut", y -> y.cut(sack, mouldy, slaty, flat), sack, mouldy, slaty, flat);
    }

    static Call feed(int a, int b, int c, int d, int e) {
        return change("feed", y -> y.feed(a, b, c, d, e), a, b, c, d, e);
    }

    static Call vote(int from) {
        return change("vote", y -> y.vote(from), from);
    }

    static Call fault() {
        return question("fault", CocoaYard::fault);
    }

    static Call end(int n) {
        return trial("end", y -> y.end(n) ? 1 : 0, n);
    }

    static Call unvote(int vote) {
        return change("unvote", y -> y.unvote(vote), vote);
    }

    static Call premium(int sack, int coins) {
        return change("premium", y -> y.premium(sack, coins), sack, coins);
    }

    static Call part(int vessel, int plot) {
        return question("part", y -> y.part(vessel, plot), vessel, plot);
    }

    static Call told(int vessel, int what) {
        return question("told", y -> y.told(vessel, what), vessel, what);
    }

    static Call coins(int member) {
        return question("coins", y -> y.coins(member), member);
    }

    static Call entry(int i, int what) {
        return question("entry", y -> y.entry(i, what), i, what);
    }

    static Call worth(int day, int sack, int member) {
        return question("worth", y -> y.worth(day, sack, member), day, sack, member);
    }

    static Call force(int day) {
        return question("force", y -> y.force(day), day);
    }

    static Call voted(int vote, int what) {
        return question("voted", y -> y.voted(vote, what), vote, what);
    }

    static Call job(int first, int last) {
        return change("job", y -> y.job(first, last), first, last);
    }

    static Call places(int day, int n) {
        return trial("places", y -> y.places(day, n) ? 1 : 0, day, n);
    }

    static Call planned(int job) {
        return question("planned", y -> y.planned(job), job);
    }

    static Call row(boolean last) {
        return question("row", y -> y.row(last), last);
    }

    static Call clear() {
        return change("clear", y -> {
            y.clear();
            return 0;
        });
    }

    static Call count(int what) {
        return question("count", y -> y.count(what), what);
    }

    /** The calls that feed a text, twenty bytes each. */
    static List<Call> feeds(String text) {
        List<Call> calls = new ArrayList<>();
        for (int at = 0; at < text.length(); at += 20) {
            int[] five = new int[5];
            for (int i = 0; i < 20 && at + i < text.length(); i++) {
                five[i / 4] |= (text.charAt(at + i) & 255) << (24 - 8 * (i % 4));
            }
            calls.add(feed(five[0], five[1], five[2], five[3], five[4]));
        }
        return calls;
    }
}
