/** The boundary cases of days and of cuts: promises 5 to 8, a test for each sentence. */
public final class DayBoundsTest extends Yards {
    public static void main(String[] args) {
        turnBoxes();
        turnOnceADay();
        coverTrays();
        coverAsItIs();
        daySun();
        dayNumbers();
        emptyOnesStay();
        boxesWithWaterAlone();
        boxTaste();
        boxesTurnedThatDay();
        heapTaste();
        trayRain();
        trayRainKnowsNoBound();
        trayRainToTheLastCall();
        traySun();
        traySunToNothing();
        traySunOnTheMost();
        trayWithoutDry();
        trayCovered();
        sacksStay();
        cutSacks();
        cutCounts();
        cutCountsTogether();
        gradeOne();
        gradeTwo();
        gradeThree();
        cutAgain();
        cutLaterCounts();
        Due.finish();
    }

    private static void turnBoxes() {
        sentence("Promise 5: no such BOX");
        Yard y = filled(1, 10, 0);
        y.would(turn(1), 1);
        for (int other : join(FAR, -1, 0, 2, 3, 4, 99, 100)) {
            y.refuses(turn(other));
        }
        yard().would(turn(1), 1);
    }

    private static void turnOnceADay() {
        sentence("Promise 5: or it was TODAY");
        Yard y = filled(1, 10, 0).and(vessel(1));
        y.due(turn(1), 1);
        y.refuses(turn(1));
        y.due(turn(4), 1);
        y.refusesAll(turn(1), turn(4));
        y.refuses(day(13, false));
        y.refuses(turn(1));
        y.make(day(0, false));
        y.due(turn(1), 1);
        y.refuses(turn(1));
        y.due(turn(4), 1);
        Yard moved = filled(1, 10, 0).and(vessel(1), turn(1), move(1, 4, 10));
        moved.refuses(turn(1));
        moved.would(turn(4), 1);
    }

    private static void coverTrays() {
        sentence("Promise 6: no such TRAY");
        Yard y = filled(2, 10, 500);
        y.would(cover(2, true), 1);
        for (int other : join(FAR, -1, 0, 1, 3, 4, 99, 100)) {
            y.refusesAll(cover(other, true), cover(other, false));
        }
        yard().would(cover(2, true), 1);
    }

    private static void coverAsItIs() {
        sentence("Promise 6: or it is so");
        Yard y = filled(2, 10, 500).and(vessel(2));
        y.refusesAll(cover(2, false), cover(4, false));
        y.due(cover(2, true), 1);
        y.refusesAll(cover(2, true), cover(4, false));
        y.make(day(1, true));
        y.refuses(cover(2, true));
        y.due(cover(4, true), 1);
        y.due(cover(2, false), 1);
        y.refusesAll(cover(2, false), cover(4, true));
        y.due(cover(2, true), 1);
    }

    private static void daySun() {
        sentence("Promise 7: sun not 0 .. 12");
        Yard y = filled(2, 100, 500).and(turn(1), vessel(1), buy(0, 0, 10, 0), move(0, 4, 5), turn(4));
        y.would(day(0, false), 1);
        y.would(day(12, false), 1);
        y.would(day(0, true), 1);
        y.would(day(12, true), 1);
        for (int sun : join(FAR, -1, 13, 14)) {
            y.refusesAll(day(sun, false), day(sun, true));
        }
    }

    private static void dayNumbers() {
        sentence("Promise 7 and Terms: DAYS are 0, 1, .. (TODAY 0 at first); the next DAY");
        Yard y = new Yard();
        y.due(count(0), 0);
        for (int i = 1; i <= 250; i++) {
            y.due(day(i % 13, i % 2 == 0), i);
            y.due(count(0), i);
        }
    }

    private static void emptyOnesStay() {
        sentence("Terms: each BOX, HEAP that is not empty; each TRAY");
        Yard y = yard().and(turn(1), day(0, true), day(12, false));
        for (int v = 0; v < 4; v++) {
            for (int what = 1; what < 9; what++) {
                y.due(told(v, what), 0);
            }
        }
        Yard gone = filled(0, 10, 0).and(day(0, false), move(0, 1, 10), day(0, false), move(1, 2, 10));
        long heap = gone.make(told(0, 5));
        long box = gone.make(told(1, 5));
        gone.and(turn(1), day(0, false), day(0, false));
        gone.due(told(0, 5), heap);
        gone.due(told(1, 5), box);
        Yard one = filled(1, 1, 0).and(buy(0, 0, 1, 0), day(0, false));
        one.due(told(1, 5), 7);
        one.due(told(0, 5), 1);
    }

    private static void boxesWithWaterAlone() {
        sentence("Terms: each BOX, HEAP that is not empty, with WATER alone");
        Yard y = filled(0, 10, 900).and(move(0, 1, 1), day(0, false));
        y.due(told(0, 2), 0);
        y.due(told(0, 5), 1);
        Yard box = filled(1, 10, 900).and(move(1, 2, 1), day(0, false));
        box.due(told(1, 2), 0);
        box.due(told(1, 5), 7);
    }

    private static void boxTaste() {
        sentence("Terms: TASTE is 12 more, if it was TURNED that DAY, else 7, at most 100");
        int[] before = {0, 1, 80, 87, 88, 89, 92, 93, 94, 99, 100};
        for (int taste : before) {
            Yard y = boxTasting(taste).and(day(12, true));
            y.due(told(1, 5), Math.min(100, taste + 7));
            Yard turned = boxTasting(taste).and(turn(1), day(0, false));
            turned.due(told(1, 5), Math.min(100, taste + 12));
        }
    }

    private static void boxesTurnedThatDay() {
        sentence("Terms: if it was TURNED that DAY");
        Yard y = filled(0, 30, 0).and(vessel(1), vessel(1), move(0, 1, 10), move(0, 4, 10), move(0, 5, 10));
        y.and(turn(4), day(0, false));
        y.due(told(1, 5), 7);
        y.due(told(4, 5), 12);
        y.due(told(5, 5), 7);
        y.and(turn(5), day(0, false));
        y.due(told(1, 5), 14);
        y.due(told(4, 5), 19);
        y.due(told(5, 5), 19);
        Yard ahead = yard().and(turn(1), buy(0, 0, 10, 0), move(0, 1, 10), day(0, false));
        ahead.due(told(1, 5), 12);
        Yard over = yard().and(turn(1), day(0, false), buy(0, 0, 10, 0), move(0, 1, 10), day(0, false));
        over.due(told(1, 5), 7);
    }

    private static void heapTaste() {
        sentence("Terms: each HEAP that is not empty: TASTE is 1 more (at most 100)");
        Yard y = filled(0, 10, 0);
        for (int i = 1; i <= 102; i++) {
            y.make(day(12, i % 2 == 0));
            y.due(told(0, 5), Math.min(100, i));
        }
    }

    /** A tray with dry grams of two plots and some water. */
    private static Yard tray(int dry, int other, int water) {
        Yard y = yard();
        // 10 grams with a wetness of 900 bring 9 of water
        int wet = water / 9;
        if (dry > wet) {
            buyMany(y, 0, 0, dry - wet, 0);
        }
        if (wet > 0) {
            buyMany(y, 0, 0, wet * 10, 900);
        }
        buyMany(y, 0, 1, other, 0);
        int all = dry + other + wet * 9;
        y.and(move(0, 1, all), move(1, 2, all));
        y.due(told(2, 2), dry + other);
        y.due(told(2, 3), wet * 9);
        return y;
    }

    private static void trayRain() {
        sentence("Terms: with rain WATER is more by a tenth of DRY (all PLOTS, cut)");
        int[] dry = {1, 9, 10, 11, 19, 20, 99, 100};
        for (int grams : dry) {
            tray(grams, 0, 0).and(day(0, true)).due(told(2, 3), grams / 10);
            tray(grams, 0, 0).and(day(12, true)).due(told(2, 3), grams / 10);
        }
        tray(5, 4, 0).and(day(0, true)).due(told(2, 3), 0);
        tray(5, 5, 0).and(day(0, true)).due(told(2, 3), 1);
        tray(9, 9, 9).and(day(0, true)).due(told(2, 3), 10);
        Yard y = tray(9, 0, 0).and(day(0, true), day(0, true));
        y.due(told(2, 3), 0);
        y.due(told(2, 2), 9);
    }

    private static void trayRainKnowsNoBound() {
        sentence("Terms: with rain WATER is more by a tenth of DRY, of the most grams");
        Yard y = tray(1_000_000, 0, 0);
        for (int i = 1; i <= 200; i++) {
            y.make(day(0, true));
            y.due(told(2, 3), 100_000L * i);
        }
        y.due(told(2, 1), 21_000_000);
        y.due(told(2, 2), 1_000_000);
        y.due(told(2, 4), 952);
    }

    private static void trayRainToTheLastCall() {
        sentence("Terms: with rain WATER is more by a tenth of DRY, up to an object's 512th call");
        Yard y = filled(2, 1_000_000, 0);
        days(y, 512 - 4 - 10 - 2 - 4, 0, true);
        y.due(told(2, 3), 49_200_000);
        y.due(told(2, 4), 980);
        y.due(move(2, 3, 1), NONE);
        y.due(told(2, 1), 50_200_000);
        Due.due("calls", y.made(), 512);
    }

    private static void dueSun(int sun, int dry, int other, int less) {
        Yard y = tray(dry, other, 900).and(day(sun, false));
        y.due(told(2, 3), 900 - less);
        y.due(told(2, 2), dry + other);
    }

    private static void traySun() {
        sentence("Terms: else less by sun times DRY by 40, cut");
        dueSun(0, 4000, 0, 0);
        dueSun(1, 119, 0, 2);
        dueSun(1, 120, 0, 3);
        dueSun(1, 100, 20, 3);
        dueSun(3, 106, 0, 7);
        dueSun(3, 107, 0, 8);
        dueSun(11, 101, 0, 27);
        dueSun(12, 103, 0, 30);
        dueSun(12, 104, 0, 31);
        dueSun(12, 101, 3, 31);
        dueSun(12, 102, 1, 30);
    }

    private static void traySunToNothing() {
        sentence("Terms: less by sun times DRY by 40 (0 at least)");
        tray(30, 0, 9).and(day(12, false)).due(told(2, 3), 0);
        tray(29, 0, 9).and(day(12, false)).due(told(2, 3), 1);
        tray(33, 0, 9).and(day(12, false)).due(told(2, 3), 0);
        tray(34, 0, 9).and(day(12, false)).due(told(2, 3), 0);
        Yard y = tray(4000, 0, 9).and(day(12, false));
        y.due(told(2, 3), 0);
        y.make(day(12, false));
        y.due(told(2, 3), 0);
        y.due(told(2, 1), 4000);
        y.make(day(0, true));
        y.due(told(2, 3), 400);
    }

    private static void traySunOnTheMost() {
        sentence("Terms: less by sun times DRY by 40, of the most grams");
        Yard y = days(tray(1_000_000, 0, 0), 10, 0, true);
        y.due(told(2, 3), 1_000_000);
        y.make(day(12, false));
        y.due(told(2, 3), 700_000);
        y.make(day(1, false));
        y.due(told(2, 3), 675_000);
    }

    private static void trayWithoutDry() {
        sentence("Terms: less by sun times DRY by 40, more by a tenth of DRY, without DRY");
        Yard y = filled(1, 10, 900).and(vessel(2), move(1, 4, 1), move(1, 2, 9));
        y.due(told(2, 2), 0);
        y.and(day(12, false), day(12, true));
        y.due(told(2, 3), 9);
    }

    private static void trayCovered() {
        sentence("Terms: each TRAY that is not covered");
        Yard y = filled(2, 1000, 500).and(vessel(2), move(2, 4, 500), cover(2, true));
        y.make(day(12, false));
        y.due(told(2, 3), 250);
        y.due(told(4, 3), 175);
        y.make(day(0, true));
        y.due(told(2, 3), 250);
        y.due(told(4, 3), 200);
        y.and(cover(2, false), cover(4, true), day(0, true));
        y.due(told(2, 3), 275);
        y.due(told(4, 3), 200);
    }

    private static void sacksStay() {
        sentence("Terms: a DAY changes BOXES, TRAYS, HEAPS alone");
        Yard y = filled(2, 1000, 75).and(move(2, 3, 600), day(12, false), day(12, true));
        y.due(told(3, 3), 45);
        y.due(told(3, 2), 555);
        y.due(told(3, 5), 0);
        Yard ripe = sackTasting(50).and(day(12, true));
        ripe.due(told(3, 5), 50);
        Yard tray = boxTasting(50).and(move(1, 2, 10), day(12, true));
        tray.due(told(2, 5), 50);
    }

    private static void cutSacks() {
        sentence("Promise 8: no such SACK, an empty one");
        Yard y = sackTasting(50).and(vessel(3), buy(0, 0, 30, 0), move(0, 1, 20), move(1, 2, 10));
        y.would(cut(3, 0, 0, 0), 1);
        for (int other : join(FAR, -1, 0, 1, 2, 5, 99, 100)) {
            y.refuses(cut(other, 0, 0, 0));
        }
        y.refusesAll(cut(4, 0, 0, 0), cut(4, 100, 0, 0));
        y.make(move(2, 4, 1));
        y.would(cut(4, 0, 0, 0), 2);
    }

    private static void cutCounts() {
        sentence("Promise 8: counts not 0 .. 100");
        Yard y = sackTasting(50);
        y.would(cut(3, 0, 0, 0), 1);
        y.would(cut(3, 100, 0, 0), 3);
        y.would(cut(3, 0, 100, 0), 3);
        y.would(cut(3, 0, 0, 100), 3);
        for (int n : join(FAR, -1, 101)) {
            y.refusesAll(cut(3, n, 0, 0), cut(3, 0, n, 0), cut(3, 0, 0, n), cut(3, n, n, n));
        }
        y.refusesAll(cut(3, -1, 1, 0), cut(3, 101, -1, 0), cut(3, 0, 101, -1), cut(3, -1, 0, 101));
    }

    private static void cutCountsTogether() {
        sentence("Promise 8: or above 100 together");
        Yard y = sackTasting(50);
        y.would(cut(3, 34, 33, 33), 3);
        y.would(cut(3, 98, 1, 1), 3);
        y.would(cut(3, 0, 50, 50), 3);
        y.refusesAll(cut(3, 34, 34, 33), cut(3, 99, 1, 1), cut(3, 1, 100, 0), cut(3, 100, 100, 100), cut(3, 0, 50, 51));
        // these sums wrap around to 0, 1 and 100 in 32 bits
        y.refusesAll(cut(3, MOST, MOST, 2), cut(3, LEAST, LEAST, 1), cut(3, MOST, 51, LEAST + 50));
    }

    private static void gradeOne() {
        sentence("Terms: GRADE 1: each at most 3, and TASTE 50 .. 90");
        sackTasting(50).due(cut(3, 3, 3, 3), 1);
        sackTasting(90).due(cut(3, 3, 3, 3), 1);
        sackTasting(51).due(cut(3, 0, 0, 0), 1);
        sackTasting(49).due(cut(3, 3, 3, 3), 2);
        sackTasting(91).due(cut(3, 3, 3, 3), 2);
        sackTasting(49).due(cut(3, 0, 0, 0), 2);
        sackTasting(91).due(cut(3, 0, 0, 0), 2);
        sackTasting(0).due(cut(3, 0, 0, 0), 2);
        sackTasting(100).due(cut(3, 0, 0, 0), 2);
        Yard y = sackTasting(70);
        y.would(cut(3, 4, 3, 3), 2);
        y.would(cut(3, 3, 4, 3), 2);
        y.would(cut(3, 3, 3, 4), 2);
    }

    private static void gradeTwo() {
        sentence("Terms: GRADE 2: at most 4, 8, 6");
        int[] tastes = {0, 49, 50, 90, 91, 100};
        for (int taste : tastes) {
            Yard y = sackTasting(taste);
            y.would(cut(3, 4, 8, 6), 2);
            y.would(cut(3, 4, 0, 0), 2);
            y.would(cut(3, 0, 8, 0), 2);
            y.would(cut(3, 0, 0, 6), 2);
        }
    }

    private static void gradeThree() {
        sentence("Terms: else GRADE 3");
        int[] tastes = {0, 49, 50, 90, 91, 100};
        for (int taste : tastes) {
            Yard y = sackTasting(taste);
            y.would(cut(3, 5, 0, 0), 3);
            y.would(cut(3, 0, 9, 0), 3);
            y.would(cut(3, 0, 0, 7), 3);
            y.would(cut(3, 5, 8, 6), 3);
            y.would(cut(3, 4, 9, 6), 3);
            y.would(cut(3, 4, 8, 7), 3);
        }
    }

    private static void cutAgain() {
        sentence("Promise 8 and Terms: it may be CUT again once, if it was of GRADE 3");
        Yard first = sackTasting(70).and(cut(3, 0, 0, 0));
        first.due(told(3, 7), 1);
        first.refusesAll(cut(3, 0, 0, 0), cut(3, 9, 9, 9));
        Yard second = sackTasting(70).and(cut(3, 4, 0, 0));
        second.due(told(3, 7), 2);
        second.refusesAll(cut(3, 0, 0, 0), cut(3, 9, 9, 9));
        Yard third = sackTasting(70).and(cut(3, 5, 0, 0));
        third.due(told(3, 7), 3);
        third.refusesAll(cut(3, 101, 0, 0), cut(3, 50, 50, 1), cut(3, -1, 0, 0));
        third.would(cut(3, 0, 0, 0), 1);
        third.would(cut(3, 4, 0, 0), 2);
        third.due(cut(3, 5, 0, 0), 3);
        third.refusesAll(cut(3, 0, 0, 0), cut(3, 4, 0, 0), cut(3, 5, 0, 0));
        Yard better = sackTasting(70).and(cut(3, 5, 0, 0), cut(3, 0, 0, 0));
        better.refusesAll(cut(3, 0, 0, 0), cut(3, 5, 0, 0));
    }

    private static void cutLaterCounts() {
        sentence("Terms: CUT again: the later counts");
        int[] mouldy = {3, 4, 5};
        for (int i = 0; i < 3; i++) {
            Yard y = voting(sackTasting(70), "q", 0).and(cut(3, 100, 0, 0));
            y.due(worth(0, 3, 0), 3);
            y.due(cut(3, mouldy[i], 0, 0), i + 1);
            y.due(told(3, 7), i + 1);
            y.due(worth(0, 3, 0), i + 1);
        }
    }
}
