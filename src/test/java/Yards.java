import java.util.Arrays;

/** Yards to begin with. */
abstract class Yards extends Calls {
    static void sentence(String promiseAndWords) {
        Due.sentence(promiseAndWords);
    }

    /** Vessels 0 to 3, one of each kind. */
    static Yard yard() {
        return new Yard().and(vessel(0), vessel(1), vessel(2), vessel(3));
    }

    /** Buys to a heap, at most 100,000 grams a call. */
    static void buyMany(Yard y, int heap, int plot, int grams, int wetness) {
        for (int left = grams; left > 0; left -= 100_000) {
            y.make(buy(heap, plot, Math.min(left, 100_000), wetness));
        }
    }

    /** Vessels 0 to 3, of which one (0 .. 2) has grams of plot 0 with a wetness. */
    static Yard filled(int vessel, int grams, int wetness) {
        Yard y = yard();
        buyMany(y, 0, 0, grams, wetness);
        for (int v = 0; v < vessel; v++) {
            y.make(move(v, v + 1, grams));
        }
        return y;
    }

    /** Vessels 0 to 3, of which one has dry grams of plots (plot, grams, plot, grams, ..). */
    static Yard mixed(int vessel, int... plotsAndGrams) {
        Yard y = yard();
        int all = 0;
        for (int i = 0; i < plotsAndGrams.length; i += 2) {
            buyMany(y, 0, plotsAndGrams[i], plotsAndGrams[i + 1], 0);
            all += plotsAndGrams[i + 1];
        }
        for (int v = 0; v < vessel; v++) {
            y.make(move(v, v + 1, all));
        }
        return y;
    }

    /** Sack 3 has dry grams of plots and is of grade 2. */
    static Yard sacked(int... plotsAndGrams) {
        return mixed(3, plotsAndGrams).and(cut(3, 4, 8, 6));
    }

    /** Sack 3 has as many grams of each member's first plot, and is of grade 2. */
    static Yard sackedByAll(int gramsEach) {
        int[] all = new int[40];
        for (int member = 0; member < 20; member++) {
            all[2 * member] = member;
            all[2 * member + 1] = gramsEach;
        }
        return sacked(all);
    }

    /** Box 1 has 10 dry grams of plot 0 with a taste. */
    static Yard boxTasting(int taste) {
        Yard y = yard().and(buy(0, 0, 10, 0));
        for (int i = 0; i < taste % 7; i++) {
            y.make(day(0, false));
        }
        y.make(move(0, 1, 10));
        for (int i = 0; i < taste / 7; i++) {
            y.make(day(0, false));
        }
        y.due(told(1, 5), taste);
        return y;
    }

    static Yard sackTasting(int taste) {
        return boxTasting(taste).and(move(1, 2, 10), move(2, 3, 10));
    }

    /** Tells a text and votes it. */
    static Yard voting(Yard y, String text, int from) {
        return y.tell(text).and(vote(from));
    }

    static String many(String text, int times) {
        return text.repeat(times);
    }

    static Yard days(Yard y, int n, int sun, boolean rain) {
        for (int i = 0; i < n; i++) {
            y.make(day(sun, rain));
        }
        return y;
    }

    static void dueEntry(Yard y, int i, int day, int premium, int member, int coins) {
        int[] wants = {day, premium, member, coins};
        for (int what = 0; what < 4; what++) {
            y.due(entry(i, what), wants[what]);
        }
    }

    /** A row of numbers with some more behind it. */
    static int[] join(int[] row, int... more) {
        int[] all = Arrays.copyOf(row, row.length + more.length);
        System.arraycopy(more, 0, all, row.length, more.length);
        return all;
    }
}
