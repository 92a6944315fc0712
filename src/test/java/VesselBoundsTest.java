/** The boundary cases of vessels and of beans that come and go: promises 1 to 4, 15 and 16, a test for each sentence. */
public final class VesselBoundsTest extends Yards {
    public static void main(String[] args) {
        theConstant();
        aNewYardIsEmpty();
        noVessels();
        noPlaces();
        yardsShareNothing();
        vesselKinds();
        vesselsAreEmpty();
        hundredVessels();
        buyPlots();
        buyHeaps();
        buyGrams();
        buyWetness();
        buyWaterIsCut();
        buyPaysDry();
        buyToTheBrim();
        plotsOfMembers();
        moveGrams();
        moveFromAnEmptyOne();
        moveVessels();
        moveToItself();
        moveKinds();
        moveWetness();
        moveWetnessOfSacksAlone();
        moveToCutSacks();
        moveToTheBrim();
        moveBeyondTheBrimByRain();
        moveWaterIsCut();
        moveWaterAlone();
        moveParts();
        movePartsOfSixty();
        moveInSixtyFourBits();
        moveTaste();
        moveTasteToAnEmptyOne();
        moveTasteOfTheMost();
        partBounds();
        toldBounds();
        toldWetness();
        toldMarks();
        toldPlots();
        Due.finish();
    }

    private static void theConstant() {
        sentence("The constants: NONE = -1");
        Due.due("NONE", CocoaYard.NONE, -1);
    }

    private static void aNewYardIsEmpty() {
        sentence("Promise 1: all as told; no VESSELS, VOTES, JOBS");
        Yard y = new Yard();
        for (int what = 0; what < 10; what++) {
            y.due(count(what), 0);
        }
        y.due(fault(), 0);
        y.due(force(0), NONE);
        y.due(force(10_000), NONE);
        y.due(voted(0, 0), NONE);
        y.due(planned(0), NONE);
        y.due(row(false), NONE);
        y.due(row(true), NONE);
        for (int member = 0; member < 20; member++) {
            y.due(coins(member), 0);
        }
        for (int what = 0; what < 4; what++) {
            y.due(entry(0, what), 0);
        }
        y.refusesAll(vote(0), end(1), unvote(0));
    }

    private static void noVessels() {
        sentence("Promise 1: no VESSELS");
        Yard y = new Yard();
        for (int what = 0; what < 9; what++) {
            y.due(told(0, what), NONE);
        }
        y.due(part(0, 0), 0);
        y.due(worth(0, 0, 0), NONE);
        y.refusesAll(buy(0, 0, 1, 0), move(0, 1, 1), move(0, 0, 1), turn(0), cover(0, true), cover(0, false),
                cut(0, 0, 0, 0), premium(0, 1));
        y.due(day(12, false), 1);
        y.due(count(6), 0);
    }

    private static void noPlaces() {
        sentence("Promise 1: no PLACES");
        for (int day = 0; day < 60; day++) {
            Yard y = new Yard();
            y.due(job(day, day), 0);
            y.due(planned(0), NONE);
            y.due(row(false), day);
            y.due(row(true), day);
        }
    }

    private static void yardsShareNothing() {
        sentence("Promise 1: a new object is as told, whatever others are");
        Yard full = voting(sacked(0, 5), "5", 0).tell("g").and(premium(3, 9), job(0, 0), places(0, 9), day(0, true));
        Yard y = new Yard();
        for (int what = 0; what < 10; what++) {
            y.due(count(what), 0);
        }
        y.due(job(0, 0), 0);
        y.due(planned(0), NONE);
        full.due(planned(0), 0);
        full.due(count(7), 1);
    }

    private static void vesselKinds() {
        sentence("Promise 2: no such kind");
        Yard y = new Yard();
        for (int kind = 0; kind < 4; kind++) {
            y.would(vessel(kind), 0);
        }
        for (int kind : join(FAR, -1, 4, 5)) {
            y.refuses(vessel(kind));
        }
        for (int kind = 0; kind < 4; kind++) {
            y.due(vessel(3 - kind), kind);
            y.due(told(kind, 0), 3 - kind);
        }
        y.refusesAll(vessel(-1), vessel(4));
    }

    private static void vesselsAreEmpty() {
        sentence("Promise 2: an empty VESSEL of a kind");
        for (int kind = 0; kind < 4; kind++) {
            Yard y = days(new Yard(), 3, 12, true);
            y.due(vessel(kind), 0);
            for (int what = 1; what < 9; what++) {
                y.due(told(0, what), 0);
            }
            for (int plot = 0; plot < 60; plot++) {
                y.due(part(0, plot), 0);
            }
        }
    }

    private static void hundredVessels() {
        sentence("Promise 2: there are 100");
        for (int last = 0; last < 4; last++) {
            Yard y = new Yard();
            for (int i = 0; i < 99; i++) {
                y.due(vessel(i % 4), i);
            }
            y.due(vessel(last), 99);
            for (int kind = 0; kind < 4; kind++) {
                y.refuses(vessel(kind));
            }
            y.due(count(1), 100);
            y.due(told(99, 0), last);
            y.due(told(98, 0), 2);
            y.due(told(100, 0), NONE);
            y.due(part(100, 0), 0);
        }
        Yard y = new Yard();
        for (int i = 0; i < 96; i++) {
            y.make(vessel(3));
        }
        y.and(vessel(0), vessel(1), vessel(2), vessel(3));
        y.due(buy(96, 0, 10, 0), 10);
        y.due(move(96, 97, 10), 10);
        y.due(turn(97), 1);
        y.due(move(97, 98, 10), 10);
        y.due(cover(98, true), 1);
        y.due(move(98, 99, 10), 10);
        y.due(cut(99, 0, 0, 0), 2);
        y.due(premium(99, 5), 0);
        y.due(worth(0, 99, 0), 10);
        y.refusesAll(buy(100, 0, 1, 0), turn(100), cover(100, true), cut(100, 0, 0, 0), premium(100, 1),
                move(98, 100, 1), move(100, 98, 1));
        y.due(worth(0, 100, 0), NONE);
    }

    private static void buyPlots() {
        sentence("Promise 3: no such PLOT");
        Yard y = filled(0, 20, 500);
        y.would(buy(0, 0, 7, 0), 27);
        y.would(buy(0, 59, 7, 0), 27);
        for (int plot : join(FAR, -1, 60, 61)) {
            y.refuses(buy(0, plot, 7, 0));
        }
        y.make(buy(0, 59, 7, 0));
        y.due(part(0, 59), 7);
        y.due(part(0, 58), 0);
    }

    private static void buyHeaps() {
        sentence("Promise 3: no such HEAP");
        Yard y = filled(0, 20, 500);
        y.would(buy(0, 5, 7, 0), 27);
        for (int other : join(FAR, -1, 1, 2, 3, 4, 99, 100)) {
            y.refuses(buy(other, 5, 7, 0));
        }
        y.make(vessel(0));
        y.would(buy(4, 5, 7, 0), 7);
    }

    private static void buyGrams() {
        sentence("Promise 3: grams (1 .. 100,000)");
        Yard y = filled(0, 20, 500);
        y.would(buy(0, 5, 1, 0), 21);
        y.would(buy(0, 5, 100_000, 0), 100_020);
        for (int grams : join(FAR, -1, 0, 100_001, 1_000_000)) {
            y.refuses(buy(0, 5, grams, 0));
            y.refuses(buy(0, 5, grams, 900));
        }
    }

    private static void buyWetness() {
        sentence("Promise 3: a wetness (0 .. 900)");
        Yard y = yard();
        y.would(buy(0, 5, 1000, 0), 1000);
        y.would(buy(0, 5, 1000, 900), 1000);
        for (int wetness : join(FAR, -1, 901, 1000)) {
            y.refuses(buy(0, 5, 1000, wetness));
        }
        dueBought(1000, 0, 0);
        dueBought(1000, 1, 1);
        dueBought(1000, 900, 900);
    }

    private static void dueBought(int grams, int wetness, int water) {
        Yard y = yard();
        y.due(buy(0, 5, grams, wetness), grams);
        y.due(told(0, 3), water);
        y.due(told(0, 2), grams - water);
        y.due(part(0, 5), grams - water);
    }

    private static void buyWaterIsCut() {
        sentence("Promise 3: WATER is grams times that by 1,000, cut, all else DRY");
        dueBought(1, 0, 0);
        dueBought(1, 900, 0);
        dueBought(2, 500, 1);
        dueBought(2, 499, 0);
        dueBought(9, 111, 0);
        dueBought(9, 112, 1);
        dueBought(999, 1, 0);
        dueBought(1000, 1, 1);
        dueBought(1999, 1, 1);
        dueBought(99_999, 900, 89_999);
        dueBought(100_000, 900, 90_000);
        Yard y = yard().and(buy(0, 5, 999, 1), buy(0, 5, 999, 1));
        y.due(told(0, 3), 0);
    }

    private static void buyPaysDry() {
        sentence("Promise 3: what is paid: DRY grams");
        Yard y = yard();
        y.make(buy(0, 5, 1, 900));
        y.due(count(5), 1);
        y.make(buy(0, 5, 100_000, 900));
        y.due(count(5), 10_001);
        y.make(buy(0, 6, 100_000, 0));
        y.due(count(5), 110_001);
        y.refuses(buy(0, 60, 100_000, 0));
        y.make(move(0, 1, 200_001));
        y.due(count(5), 110_001);
    }

    private static void buyToTheBrim() {
        sentence("Promise 3: it would weigh more than 1,000,000");
        for (int wetness = 0; wetness <= 900; wetness += 450) {
            Yard y = filled(0, 900_000, wetness);
            y.would(buy(0, 59, 100_000, 0), 1_000_000);
            y.would(buy(0, 59, 100_000, 900), 1_000_000);
            y.make(buy(0, 1, 1, 0));
            y.would(buy(0, 59, 99_999, 0), 1_000_000);
            y.refusesAll(buy(0, 59, 100_000, 0), buy(0, 59, 100_000, 900));
            y.make(buy(0, 1, 99_998, 0));
            y.would(buy(0, 59, 1, 0), 1_000_000);
            y.refusesAll(buy(0, 59, 2, 0), buy(0, 59, 2, 900));
            y.due(buy(0, 59, 1, 0), 1_000_000);
            y.refusesAll(buy(0, 59, 1, 0), buy(0, 59, 1, 900), buy(0, 59, 100_000, 0));
            y.due(move(0, 1, 3), 3);
            y.would(buy(0, 59, 3, 0), 1_000_000);
            y.refuses(buy(0, 59, 4, 0));
        }
    }

    private static void plotsOfMembers() {
        sentence("Terms: 20 MEMBERS and 60 PLOTS; plot p is of MEMBER p modulo 20");
        for (int plot = 0; plot < 60; plot++) {
            Yard y = sacked(plot, 7).and(premium(3, 5));
            for (int member = 0; member < 20; member++) {
                y.due(worth(0, 3, member), member == plot % 20 ? 7 : 0);
                y.due(coins(member), member == plot % 20 ? 5 : 0);
            }
        }
    }

    private static void moveGrams() {
        sentence("Promise 4: grams not 1 .. WEIGHT");
        for (int from = 0; from < 3; from++) {
            Yard y = filled(from, 100, 0);
            y.would(move(from, from + 1, 1), 1);
            y.would(move(from, from + 1, 100), 100);
            for (int grams : join(FAR, -1, 0, 101, 1_000_000)) {
                y.refuses(move(from, from + 1, grams));
            }
        }
        Yard wet = filled(0, 100, 900);
        wet.would(move(0, 1, 100), 100);
        wet.refuses(move(0, 1, 101));
        Yard all = filled(0, 100, 900);
        all.due(move(0, 1, 100), 100);
        all.due(told(0, 1), 0);
        all.due(told(1, 2), 10);
        all.due(told(1, 3), 90);
        all.refusesAll(move(0, 1, 1), move(0, 1, 0));
    }

    private static void moveFromAnEmptyOne() {
        sentence("Promise 4: grams not 1 .. WEIGHT, of an empty VESSEL");
        Yard y = yard().and(vessel(0), vessel(1), vessel(2));
        int[][] ways = {{0, 1}, {0, 4}, {1, 2}, {1, 5}, {2, 3}, {2, 6}};
        for (int[] way : ways) {
            y.refusesAll(move(way[0], way[1], 1), move(way[0], way[1], 0), move(way[0], way[1], -1),
                    move(way[0], way[1], MOST), move(way[0], way[1], LEAST));
        }
    }

    private static void moveVessels() {
        sentence("Promise 4: no such VESSELS");
        Yard y = filled(0, 100, 0).and(move(0, 1, 50));
        y.would(move(0, 1, 5), 55);
        for (int other : join(FAR, -1, 4, 5, 99, 100)) {
            y.refusesAll(move(other, 1, 5), move(0, other, 5), move(other, other, 5));
        }
    }

    private static void moveToItself() {
        sentence("Promise 4: the same");
        for (int v = 0; v < 4; v++) {
            Yard y = mixed(v, 3, 50, 4, 50);
            y.refusesAll(move(v, v, 1), move(v, v, 50), move(v, v, 100));
        }
    }

    /** Vessels 0 to 7, two of each kind, 10 grams in each. */
    private static Yard twoOfEach() {
        Yard y = yard().and(vessel(0), vessel(1), vessel(2), vessel(3));
        for (int half = 0; half < 8; half += 4) {
            y.and(buy(half, 7, 40, 0), move(half, half + 1, 30), move(half + 1, half + 2, 20), move(half + 2, half + 3, 10));
        }
        return y;
    }

    private static void moveKinds() {
        sentence("Promise 4 and Terms: from a kind to the same one or the next, not from SACKS");
        Yard y = twoOfEach();
        for (int from = 0; from < 8; from++) {
            for (int to = 0; to < 8; to++) {
                int step = to % 4 - from % 4;
                if (from != to && from % 4 != 3 && (step == 0 || step == 1)) {
                    y.would(move(from, to, 10), 20);
                } else {
                    y.refuses(move(from, to, 10));
                }
            }
        }
    }

    private static void moveWetness() {
        sentence("Terms: to a SACK only with WETNESS 75 at most of what it comes from");
        Yard exact = filled(2, 1000, 75);
        exact.due(told(2, 4), 75);
        exact.would(move(2, 3, 1), 1);
        exact.would(move(2, 3, 1000), 1000);
        Yard cut = yard().and(buy(0, 0, 10_000, 75), buy(0, 0, 10, 900), move(0, 1, 10_010), move(1, 2, 10_010));
        cut.due(told(2, 3), 759);
        cut.due(told(2, 4), 75);
        cut.would(move(2, 3, 10_010), 10_010);
        Yard above = filled(2, 1000, 76);
        above.due(told(2, 4), 76);
        above.refusesAll(move(2, 3, 1), move(2, 3, 1000));
        Yard dry = filled(2, 1000, 0);
        dry.would(move(2, 3, 1000), 1000);
        Yard wettest = filled(2, 1000, 900);
        wettest.refuses(move(2, 3, 1000));
        Yard drying = filled(2, 1000, 100);
        drying.refuses(move(2, 3, 1000));
        drying.make(day(1, false));
        drying.due(told(2, 3), 78);
        drying.refuses(move(2, 3, 978));
        drying.make(day(1, false));
        drying.would(move(2, 3, 956), 956);
    }

    private static void moveWetnessOfSacksAlone() {
        sentence("Terms: with WETNESS 75 at most to a SACK, to others with any");
        Yard y = filled(0, 1000, 900).and(vessel(0), vessel(1), vessel(2));
        y.due(move(0, 4, 1000), 1000);
        y.due(move(4, 1, 1000), 1000);
        y.due(move(1, 5, 1000), 1000);
        y.due(move(5, 2, 1000), 1000);
        y.due(move(2, 6, 1000), 1000);
        y.refuses(move(6, 3, 1000));
    }

    private static void moveToCutSacks() {
        sentence("Terms: and only as the SACK is not CUT");
        int[] bad = {0, 5, 100};
        for (int mouldy : bad) {
            Yard y = filled(2, 100, 0).and(vessel(3), move(2, 3, 50));
            y.refuses(cut(3, mouldy + 101, 0, 0));
            y.would(move(2, 3, 1), 51);
            y.make(cut(3, mouldy, 0, 0));
            y.refusesAll(move(2, 3, 1), move(2, 3, 50));
            y.would(move(2, 4, 50), 50);
            y.make(cut(3, mouldy, 0, 0));
            y.refuses(move(2, 3, 1));
        }
        Yard good = sackTasting(70).and(buy(0, 0, 10, 0), move(0, 1, 10), move(1, 2, 10));
        good.would(move(2, 3, 10), 20);
        good.due(cut(3, 0, 0, 0), 1);
        good.refuses(move(2, 3, 10));
    }

    private static void moveToTheBrim() {
        sentence("Promise 4: or it would weigh more than 1,000,000");
        for (int to = 0; to < 4; to++) {
            int from = to == 0 ? 4 : to - 1;
            Yard y = yard().and(vessel(0));
            buyMany(y, 4, 8, 999_990, 0);
            for (int v = 0; v <= to; v++) {
                y.make(move(v == 0 ? 4 : v - 1, v, 999_990));
            }
            buyMany(y, 4, 9, 20, 0);
            for (int v = 0; v < to; v++) {
                y.make(move(v == 0 ? 4 : v - 1, v, 20));
            }
            y.would(move(from, to, 10), 1_000_000);
            y.refusesAll(move(from, to, 11), move(from, to, 20));
            y.due(move(from, to, 10), 1_000_000);
            y.refusesAll(move(from, to, 1), move(from, to, 10));
        }
        Yard wet = filled(0, 1_000_000, 900).and(vessel(0), buy(4, 0, 1, 0));
        wet.refuses(move(4, 0, 1));
        wet.would(move(0, 4, 999_999), 1_000_000);
        wet.refuses(move(0, 4, 1_000_000));
    }

    private static void moveBeyondTheBrimByRain() {
        sentence("Promise 4: more than 1,000,000, of a TRAY that rain made so");
        Yard y = filled(2, 1_000_000, 0).and(vessel(2), buy(0, 1, 5, 0), move(0, 1, 5), day(0, true));
        y.due(told(2, 1), 1_100_000);
        y.refusesAll(move(1, 2, 1), move(2, 4, 1_000_001), move(2, 4, 1_100_000), move(2, 4, 1_100_001));
        y.would(move(2, 4, 1_000_000), 1_000_000);
        y.make(move(2, 4, 100_001));
        y.due(told(2, 1), 999_999);
        y.would(move(1, 2, 1), 1_000_000);
        y.refuses(move(1, 2, 2));
    }

    private static void dueMoved(int grams, int wetness, int moved, int water) {
        Yard y = filled(0, grams, wetness);
        y.due(move(0, 1, moved), moved);
        y.due(told(1, 3), water);
        y.due(told(1, 2), moved - water);
        y.due(part(1, 0), moved - water);
        y.due(told(0, 1), grams - moved);
        y.due(count(6), y.make(count(5)));
    }

    private static void moveWaterIsCut() {
        sentence("Terms: of WATER w times WATER by WEIGHT, cut; the rest of w is DRY");
        dueMoved(10, 900, 1, 0);
        dueMoved(10, 900, 2, 1);
        dueMoved(10, 900, 9, 8);
        dueMoved(10, 900, 10, 9);
        dueMoved(1000, 1, 999, 0);
        dueMoved(1000, 1, 1000, 1);
        dueMoved(3, 400, 2, 0);
        dueMoved(3, 400, 3, 1);
        dueMoved(4, 500, 2, 1);
        dueMoved(4, 500, 1, 0);
        dueMoved(100, 0, 100, 0);
    }

    private static void moveWaterAlone() {
        sentence("Terms: the rest of w is DRY, of a VESSEL without DRY");
        Yard y = filled(0, 10, 900).and(vessel(1), move(0, 1, 1));
        y.due(told(0, 2), 0);
        y.due(told(0, 3), 9);
        y.due(told(0, 8), 0);
        y.due(move(0, 4, 4), 4);
        y.due(told(4, 2), 0);
        y.due(told(4, 3), 4);
        y.due(told(4, 8), 0);
        y.due(move(0, 4, 5), 9);
        y.due(told(0, 1), 0);
        y.due(move(4, 1, 9), 10);
        y.due(part(1, 0), 1);
    }

    private static void dueParts(Yard y, int vessel, int... plotsAndGrams) {
        for (int i = 0; i < plotsAndGrams.length; i += 2) {
            y.due(part(vessel, plotsAndGrams[i]), plotsAndGrams[i + 1]);
        }
    }

    private static void moveParts() {
        sentence("Terms: what is left goes by ones to those with the greatest rests, of alike rests the lowest number first");
        dueParts(mixed(0, 58, 5, 59, 5).and(move(0, 1, 1)), 1, 58, 1, 59, 0);
        dueParts(mixed(0, 59, 5, 0, 5).and(move(0, 1, 1)), 1, 0, 1, 59, 0);
        dueParts(mixed(0, 0, 1, 59, 2).and(move(0, 1, 1)), 1, 0, 0, 59, 1);
        dueParts(mixed(0, 0, 1, 59, 2).and(move(0, 1, 2)), 1, 0, 1, 59, 1);
        dueParts(mixed(0, 0, 1, 59, 2).and(move(0, 1, 3)), 1, 0, 1, 59, 2);
        // 7 * 5 / 16 = 2 rest 3, 7 * 4 / 16 = 1 rest 12, 7 * 7 / 16 = 3 rest 1
        dueParts(mixed(0, 2, 5, 3, 4, 4, 7).and(move(0, 1, 7)), 1, 2, 2, 3, 2, 4, 3);
        // 5 * 2 / 6 = 1 rest 4, three times: two of them get one more
        dueParts(mixed(0, 30, 2, 20, 2, 10, 2).and(move(0, 1, 5)), 1, 10, 2, 20, 2, 30, 1);
        dueParts(mixed(0, 30, 2, 20, 2, 10, 2).and(move(0, 1, 5)), 0, 10, 0, 20, 0, 30, 1, 0, 0);
    }

    private static void movePartsOfSixty() {
        sentence("Terms: parted among its PLOTS, each at most what there is");
        int[] each = new int[120];
        for (int plot = 0; plot < 60; plot++) {
            each[2 * plot] = 59 - plot;
            each[2 * plot + 1] = 1;
        }
        int[] moves = {1, 30, 59, 60};
        for (int grams : moves) {
            Yard y = mixed(0, each).and(move(0, 1, grams));
            for (int plot = 0; plot < 60; plot++) {
                y.due(part(1, plot), plot < grams ? 1 : 0);
                y.due(part(0, plot), plot < grams ? 0 : 1);
            }
            y.due(told(1, 8), grams);
            y.due(told(0, 8), 60 - grams);
        }
    }

    private static void moveInSixtyFourBits() {
        sentence("Terms: MOVING the most grams");
        dueParts(mixed(0, 0, 500_000, 59, 500_000).and(move(0, 1, 999_999)), 1, 0, 500_000, 59, 499_999);
        dueParts(mixed(0, 0, 1, 59, 999_999).and(move(0, 1, 999_999)), 1, 0, 1, 59, 999_998);
        dueParts(mixed(0, 0, 1, 59, 999_999).and(move(0, 1, 500_000)), 1, 0, 1, 59, 499_999);
        dueParts(mixed(0, 0, 1, 59, 999_999).and(move(0, 1, 499_999)), 1, 0, 0, 59, 499_999);
        dueMoved(1_000_000, 900, 999_999, 899_999);
        dueMoved(1_000_000, 900, 1_000_000, 900_000);
        Yard y = days(filled(2, 1_000_000, 0).and(vessel(2)), 30, 0, true);
        y.due(told(2, 3), 3_000_000);
        y.due(move(2, 4, 1_000_000), 1_000_000);
        y.due(told(4, 3), 750_000);
        y.due(part(4, 0), 250_000);
        y.due(part(2, 0), 750_000);
    }

    /** Box 1 has 7 grams with a taste of 7, heap 0 has 93 with none. */
    private static Yard tasteSeven() {
        return yard().and(buy(0, 0, 7, 0), move(0, 1, 7), day(0, false), buy(0, 0, 93, 0));
    }

    private static void moveTaste() {
        sentence("Terms: the TASTE becomes (its WEIGHT times its TASTE, and w times that of the other) by both WEIGHTS, cut");
        int[] grams = {1, 2, 17, 18, 42, 43, 93};
        int[] tastes = {6, 5, 2, 1, 1, 0, 0};
        for (int i = 0; i < grams.length; i++) {
            Yard y = tasteSeven();
            y.due(move(0, 1, grams[i]), 7 + grams[i]);
            y.due(told(1, 5), tastes[i]);
            y.due(told(0, 5), 0);
        }
        Yard water = yard().and(buy(0, 0, 10, 900), move(0, 1, 10), day(0, false), buy(0, 0, 10, 0), move(0, 1, 10));
        water.due(told(1, 5), 3);
    }

    private static void moveTasteToAnEmptyOne() {
        sentence("Terms: the TASTE of what they go to, of an empty VESSEL");
        Yard y = tasteSeven().and(vessel(1));
        y.due(move(1, 4, 7), 7);
        y.due(told(4, 5), 7);
        y.due(move(0, 1, 10), 10);
        y.due(told(1, 5), 0);
        y.due(move(1, 2, 10), 10);
        y.due(move(4, 1, 1), 1);
        y.due(told(1, 5), 7);
        y.due(move(2, 3, 10), 10);
        y.due(told(3, 5), 0);
    }

    private static void moveTasteOfTheMost() {
        sentence("Terms: the TASTE by both WEIGHTS together, of the most grams");
        Yard y = filled(1, 999_999, 0).and(vessel(1), buy(0, 0, 1, 0), move(0, 4, 1));
        days(y, 15, 0, false);
        y.due(told(1, 5), 100);
        y.due(told(4, 5), 100);
        y.due(move(4, 1, 1), 1_000_000);
        y.due(told(1, 5), 100);
        y.make(vessel(1));
        y.make(buy(0, 0, 1, 0));
        y.due(move(0, 5, 1), 1);
        y.due(move(1, 5, 999_999), 1_000_000);
        y.due(told(5, 5), 99);
    }

    private static void partBounds() {
        sentence("Promise 15: DRY grams of a PLOT in a VESSEL, 0 for others");
        Yard y = mixed(0, 0, 3, 59, 4);
        y.due(part(0, 0), 3);
        y.due(part(0, 59), 4);
        y.due(part(0, 1), 0);
        y.due(part(1, 0), 0);
        for (int other : join(FAR, -1, 60, 61)) {
            y.due(part(0, other), 0);
        }
        for (int other : join(FAR, -1, 4, 99, 100)) {
            y.due(part(other, 0), 0);
            y.due(part(other, other), 0);
        }
        y.changesNothing(part(0, 60), 0);
        y.changesNothing(part(0, 59), 4);
        y.changesNothing(part(4, 0), 0);
    }

    private static void toldBounds() {
        sentence("Promise 16: NONE for others, or if there is none such");
        Yard y = mixed(0, 0, 3, 59, 4);
        y.due(told(0, 0), 0);
        y.due(told(0, 8), 2);
        y.due(told(3, 0), 3);
        for (int other : join(FAR, -1, 9, 10)) {
            for (int v = 0; v < 4; v++) {
                y.due(told(v, other), NONE);
            }
        }
        for (int other : join(FAR, -1, 4, 99, 100)) {
            y.due(told(other, 0), NONE);
            y.due(told(other, 8), NONE);
            y.due(told(other, other), NONE);
        }
        y.changesNothing(told(0, 9), NONE);
        y.changesNothing(told(4, 0), NONE);
        y.changesNothing(told(0, 1), 7);
    }

    private static void dueWetness(Yard y, int vessel, int want) {
        y.due(told(vessel, 4), want);
    }

    private static void toldWetness() {
        sentence("Terms: WETNESS is 1,000 times WATER by WEIGHT, cut (0 of an empty one)");
        dueWetness(yard(), 0, 0);
        dueWetness(filled(1, 10, 500), 0, 0);
        dueWetness(filled(0, 1, 900), 0, 0);
        dueWetness(filled(0, 3, 400), 0, 333);
        dueWetness(filled(0, 3, 700), 0, 666);
        dueWetness(filled(0, 1000, 1), 0, 1);
        dueWetness(filled(0, 1001, 1), 0, 0);
        dueWetness(filled(0, 1_000_000, 900), 0, 900);
        dueWetness(filled(0, 10, 900).and(move(0, 1, 1)), 0, 1000);
        dueWetness(filled(0, 10, 900).and(move(0, 1, 9)), 0, 1000);
        Yard rained = filled(2, 1_000_000, 0);
        for (int days = 1; days <= 40; days++) {
            rained.make(day(0, true));
            rained.due(told(2, 4), 1000 * days / (10 + days));
        }
    }

    private static void toldMarks() {
        sentence("Promise 16: 6 whether a BOX is TURNED, a TRAY covered (1), 7 GRADE (0 none)");
        Yard y = twoOfEach();
        for (int v = 0; v < 8; v++) {
            y.due(told(v, 6), 0);
            y.due(told(v, 7), 0);
        }
        y.and(turn(5), cover(2, true), cut(7, 9, 0, 0));
        for (int v = 0; v < 8; v++) {
            y.due(told(v, 6), v == 5 || v == 2 ? 1 : 0);
            y.due(told(v, 7), v == 7 ? 3 : 0);
        }
        y.make(day(0, false));
        y.due(told(5, 6), 0);
        y.due(told(2, 6), 1);
    }

    private static void toldPlots() {
        sentence("Promise 16: 8 how many PLOTS");
        Yard y = yard();
        for (int plot = 0; plot < 60; plot++) {
            y.make(buy(0, plot, 2, 500));
            y.make(buy(0, plot, 2, 500));
            y.due(told(0, 8), plot + 1);
        }
        y.make(move(0, 1, 240));
        y.due(told(0, 8), 0);
        y.due(told(1, 8), 60);
    }
}
