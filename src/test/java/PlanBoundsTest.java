/** The boundary cases of the plan and of what is counted: promises 22 to 27, a test for each sentence. */
public final class PlanBoundsTest extends Yards {
    public static void main(String[] args) {
        jobDays();
        jobFirstBehindLast();
        jobSixty();
        placesDays();
        placesNumbers();
        placesAnew();
        plannedNumbers();
        plannedWithoutJobs();
        plannedNotAll();
        plannedOnBorderDays();
        plannedLeastLast();
        plannedLowestNumber();
        plannedAsLongAsThereArePlaces();
        plannedSixty();
        rowWithoutJobs();
        rowWithoutPlaces();
        rowOnBorderDays();
        rowMoreThanPlaces();
        rowWithin();
        rowLeastLast();
        rowGreatestFirst();
        rowSixty();
        clearNothing();
        clearJobs();
        clearKeepsAllElse();
        clearSixty();
        countOthers();
        countsOfTheFull();
        countDry();
        Due.finish();
    }

    private static void jobDays() {
        sentence("Promise 22: DAYS not 0 .. 59");
        Yard y = new Yard().and(job(3, 5), places(4, 1));
        y.would(job(0, 0), 1);
        y.would(job(59, 59), 1);
        y.would(job(0, 59), 1);
        for (int day : join(FAR, -1, 60, 61)) {
            y.refusesAll(job(day, 30), job(30, day), job(day, day));
        }
        y.refusesAll(job(-1, 0), job(-1, 59), job(0, 60), job(59, 60), job(-1, 60), job(LEAST, MOST), job(MOST, LEAST));
    }

    private static void jobFirstBehindLast() {
        sentence("Promise 22: the first behind the last");
        Yard y = new Yard().and(job(3, 5), places(4, 1));
        for (int day = 0; day < 59; day++) {
            y.would(job(day, day), 1);
            y.would(job(day, day + 1), 1);
            y.refuses(job(day + 1, day));
        }
        y.refusesAll(job(59, 0), job(59, 58), job(1, 0));
    }

    /** As many jobs that may be on any day. */
    private static Yard jobs(int n) {
        Yard y = new Yard();
        for (int i = 0; i < n; i++) {
            y.due(job(0, 59), i);
        }
        return y;
    }

    private static void jobSixty() {
        sentence("Promise 22: there are 60");
        Yard y = jobs(59);
        y.would(job(59, 59), 59);
        y.due(job(0, 59), 59);
        y.refusesAll(job(0, 0), job(59, 59), job(0, 59), job(60, 60), job(-1, 0));
        y.due(count(7), 60);
        y.due(planned(60), NONE);
        y.make(clear());
        y.due(job(0, 0), 0);
    }

    private static void placesDays() {
        sentence("Promise 23: PLACES of a DAY (0 .. 59)");
        Yard y = new Yard().and(job(3, 5), places(4, 1));
        y.would(places(0, 1), 1);
        y.would(places(59, 1), 1);
        for (int day : join(FAR, -1, 60, 61)) {
            y.refusesAll(places(day, 1), places(day, 0), places(day, 9), places(day, day));
        }
        for (int day = 0; day < 60; day++) {
            Yard one = new Yard();
            one.due(places(day, 1), 1);
            one.due(job(0, 59), 0);
            one.due(planned(0), day);
        }
    }

    /** How many jobs a day can have. */
    private static void duePlaces(Yard y, int day, int want) {
        Yard it = y.again().and(clear());
        for (int i = 1; i <= 10; i++) {
            it.make(job(day, day));
            it.due(planned(0), i <= want ? day : NONE);
            it.due(row(true), i <= want ? NONE : day);
        }
    }

    private static void placesNumbers() {
        sentence("Promise 23: 0 .. 9");
        Yard y = new Yard().and(places(4, 5));
        for (int n = 0; n <= 9; n++) {
            y.would(places(4, n), 1);
            Yard it = y.again().and(places(4, n), places(0, 9 - n), places(59, n));
            duePlaces(it, 4, n);
            duePlaces(it, 0, 9 - n);
            duePlaces(it, 59, n);
            duePlaces(it, 3, 0);
            duePlaces(it, 5, 0);
        }
        for (int n : join(FAR, -1, 10, 11)) {
            y.refusesAll(places(4, n), places(0, n), places(59, n));
        }
    }

    private static void placesAnew() {
        sentence("Promise 23: PLACES of a DAY, told again");
        Yard y = new Yard().and(places(7, 9), places(7, 2));
        duePlaces(y, 7, 2);
        y.changesNothing(places(7, 2), 1);
        y.make(places(7, 0));
        duePlaces(y, 7, 0);
        y.make(places(7, 3));
        duePlaces(y, 7, 3);
    }

    private static void plannedNumbers() {
        sentence("Promise 24: NONE: no such JOB");
        Yard y = new Yard().and(places(4, 2), job(3, 5), job(4, 4));
        y.due(planned(0), 4);
        y.due(planned(1), 4);
        for (int job : join(FAR, -1, 2, 59, 60)) {
            y.due(planned(job), NONE);
        }
        y.changesNothing(planned(0), 4);
        y.changesNothing(planned(2), NONE);
    }

    private static void plannedWithoutJobs() {
        sentence("Promise 24: NONE: no such JOB, without JOBS");
        Yard y = new Yard().and(places(4, 2));
        for (int job : join(FAR, -1, 0, 59, 60)) {
            y.due(planned(job), NONE);
        }
    }

    private static void plannedNotAll() {
        sentence("Promise 24: NONE: or not all have one");
        Yard y = new Yard().and(places(4, 2), job(3, 5), job(4, 4), job(9, 9));
        for (int job = 0; job < 3; job++) {
            y.due(planned(job), NONE);
        }
        y.make(places(9, 1));
        y.due(planned(0), 4);
        y.due(planned(2), 9);
        y.make(job(0, 59));
        for (int job = 0; job < 4; job++) {
            y.due(planned(job), NONE);
        }
        y.make(places(59, 1));
        y.due(planned(3), 59);
        y.changesNothing(planned(3), 59);
    }

    private static void plannedOnBorderDays() {
        sentence("Terms: of the JOBS that may be on it: from a first to a last DAY");
        Yard y = new Yard().and(job(10, 20));
        for (int day = 0; day < 60; day++) {
            Yard it = y.again().and(places(day, 9));
            it.due(planned(0), day >= 10 && day <= 20 ? day : NONE);
        }
        Yard ends = new Yard().and(places(0, 1), places(59, 1), job(59, 59), job(0, 0));
        ends.due(planned(0), 59);
        ends.due(planned(1), 0);
        Yard early = new Yard().and(places(12, 1), places(10, 1), places(9, 1), job(10, 20));
        early.due(planned(0), 10);
    }

    private static void plannedLeastLast() {
        sentence("Terms: PLAN: the one with the least last DAY gets it");
        Yard y = new Yard().and(places(5, 1), places(6, 1), places(7, 1), job(0, 59), job(5, 7), job(5, 6));
        y.due(planned(0), 7);
        y.due(planned(1), 6);
        y.due(planned(2), 5);
        Yard first = new Yard().and(places(5, 1), places(6, 1), job(0, 7), job(5, 6));
        first.due(planned(0), 6);
        first.due(planned(1), 5);
    }

    private static void plannedLowestNumber() {
        sentence("Terms: PLAN: of several the lowest number");
        Yard y = new Yard().and(places(5, 1), places(6, 1), places(7, 1), job(5, 9), job(0, 9), job(3, 9));
        for (int job = 0; job < 3; job++) {
            y.due(planned(job), 5 + job);
        }
    }

    private static void plannedAsLongAsThereArePlaces() {
        sentence("Terms: PLAN: day by day, as long as there are PLACES");
        Yard y = new Yard().and(places(5, 9), places(6, 1));
        for (int i = 0; i < 10; i++) {
            y.make(job(5, 6));
        }
        for (int i = 0; i < 10; i++) {
            y.due(planned(i), i < 9 ? 5 : 6);
        }
        y.make(job(5, 6));
        y.due(planned(0), NONE);
        y.make(places(6, 2));
        y.due(planned(10), 6);
        y.make(places(5, 8));
        y.due(planned(0), NONE);
    }

    private static void plannedSixty() {
        sentence("Promise 24: the DAY of a JOB by PLAN, of 60");
        Yard y = new Yard();
        for (int day = 0; day < 60; day++) {
            y.and(places(day, 1), job(59 - day, 59));
        }
        for (int job = 0; job < 60; job++) {
            y.due(planned(job), 59 - job);
        }
        y.due(planned(60), NONE);
        y.make(places(30, 0));
        y.due(planned(0), NONE);
        y.due(planned(59), NONE);
        y.make(places(59, 2));
        y.due(planned(28), 31);
        y.due(planned(29), 59);
        y.due(planned(0), 59);
        y.due(planned(59), 0);
        Yard crowd = jobs(60);
        for (int day = 0; day < 7; day++) {
            crowd.make(places(day * 9 + 5, 9));
        }
        for (int job = 0; job < 60; job++) {
            crowd.due(planned(job), job / 9 * 9 + 5);
        }
    }

    private static void dueRow(Yard y, int first, int last) {
        y.due(row(false), first);
        y.due(row(true), last);
    }

    private static void rowWithoutJobs() {
        sentence("Promise 25: NONE: all JOBS have a DAY, without JOBS");
        dueRow(new Yard(), NONE, NONE);
        Yard y = new Yard().and(places(0, 9));
        dueRow(y, NONE, NONE);
        y.changesNothing(row(false), NONE);
        y.changesNothing(row(true), NONE);
    }

    private static void rowWithoutPlaces() {
        sentence("Promise 25: ROW, without PLACES");
        dueRow(new Yard().and(job(0, 59)), 0, 59);
        dueRow(new Yard().and(job(0, 0)), 0, 0);
        dueRow(new Yard().and(job(59, 59)), 59, 59);
        Yard y = new Yard().and(job(10, 20));
        dueRow(y, 10, 20);
        y.changesNothing(row(true), 20);
        dueRow(new Yard().and(job(10, 20), job(15, 20)), 15, 20);
        dueRow(new Yard().and(job(10, 20), job(15, 21)), 10, 20);
        dueRow(new Yard().and(job(10, 20), job(5, 19)), 5, 19);
    }

    private static void rowOnBorderDays() {
        sentence("Promise 25: its first DAY, or its last, at the first and the last of all");
        Yard y = new Yard().and(job(0, 0), job(0, 0), places(0, 1));
        dueRow(y, 0, 0);
        y.make(places(0, 2));
        dueRow(y, NONE, NONE);
        Yard last = new Yard().and(job(59, 59), job(58, 59), job(59, 59), places(58, 1), places(59, 1));
        dueRow(last, 59, 59);
        last.make(places(59, 2));
        dueRow(last, NONE, NONE);
        Yard all = new Yard().and(job(0, 59), job(0, 59), places(0, 1));
        dueRow(all, 0, 59);
        all.make(places(59, 1));
        dueRow(all, NONE, NONE);
    }

    private static void rowMoreThanPlaces() {
        sentence("Terms: ROW: more JOBS must be within than there are PLACES");
        Yard y = new Yard().and(places(10, 2), places(12, 1));
        y.and(job(10, 12), job(10, 12), job(10, 12));
        dueRow(y, NONE, NONE);
        y.make(job(10, 12));
        dueRow(y, 10, 12);
        y.make(places(11, 1));
        dueRow(y, NONE, NONE);
        y.and(places(11, 0), places(9, 9), places(13, 9));
        dueRow(y, 10, 12);
        y.make(places(10, 3));
        dueRow(y, NONE, NONE);
    }

    private static void rowWithin() {
        sentence("Terms: ROW: within (first a or behind, last b or ahead)");
        Yard y = new Yard().and(places(10, 1), places(11, 1), job(10, 11), job(9, 11), job(10, 12));
        dueRow(y, 9, 12);
        y.make(places(9, 1));
        dueRow(y, NONE, NONE);
        Yard other = new Yard().and(places(10, 1), job(10, 10), job(9, 10), job(10, 11));
        dueRow(other, 9, 10);
        other.make(places(9, 1));
        dueRow(other, 10, 11);
        other.make(places(11, 1));
        dueRow(other, NONE, NONE);
    }

    private static void rowLeastLast() {
        sentence("Terms: ROW: of all such the one with the least b");
        Yard y = new Yard().and(job(40, 50), job(0, 30), job(29, 31));
        dueRow(y, 0, 30);
        y.make(places(0, 1));
        dueRow(y, 29, 31);
        y.make(places(31, 1));
        dueRow(y, 40, 50);
        y.make(places(45, 1));
        dueRow(y, NONE, NONE);
    }

    private static void rowGreatestFirst() {
        sentence("Terms: ROW: of these the greatest a");
        Yard y = new Yard().and(job(0, 30), job(10, 30), job(20, 30), places(20, 1));
        dueRow(y, 10, 30);
        y.make(places(10, 1));
        dueRow(y, 0, 30);
        y.make(places(20, 0));
        dueRow(y, 20, 30);
        y.make(places(29, 2));
        dueRow(y, NONE, NONE);
    }

    private static void rowSixty() {
        sentence("Promise 25: ROW, of 60 JOBS");
        Yard y = jobs(60);
        dueRow(y, 0, 59);
        for (int day = 0; day < 59; day++) {
            y.make(places(day, 1));
        }
        dueRow(y, 0, 59);
        y.make(places(59, 1));
        dueRow(y, NONE, NONE);
        Yard last = new Yard().and(places(59, 9), places(58, 9));
        for (int i = 0; i < 60; i++) {
            last.make(job(i < 50 ? 0 : 59, 59));
        }
        dueRow(last, 59, 59);
    }

    private static void clearNothing() {
        sentence("Promise 26: all JOBS are gone, without JOBS");
        new Yard().changesNothing(clear(), 0);
        sacked(0, 5).and(places(3, 4), premium(3, 5)).changesNothing(clear(), 0);
    }

    private static void clearJobs() {
        sentence("Promise 26: all JOBS are gone");
        Yard y = new Yard().and(places(3, 1), job(3, 3), job(3, 3));
        dueRow(y, 3, 3);
        y.make(clear());
        y.due(count(7), 0);
        y.due(planned(0), NONE);
        y.due(planned(1), NONE);
        dueRow(y, NONE, NONE);
        y.due(job(0, 59), 0);
        y.due(planned(0), 3);
        y.due(planned(1), NONE);
    }

    private static void clearKeepsAllElse() {
        sentence("Promise 26: all JOBS are gone, and nothing else");
        Yard y = voting(sacked(0, 5, 1, 7), "g+1", 0).tell("g*").and(premium(3, 9), turn(1), cover(2, true));
        y.and(places(0, 9), places(59, 1), places(30, 4), day(3, false));
        Yard cleared = y.again().and(job(0, 0), job(5, 9), clear());
        for (int what = 0; what < 10; what++) {
            cleared.due(count(what), y.make(count(what)));
        }
        for (int member = 0; member < 20; member++) {
            cleared.due(coins(member), y.make(coins(member)));
            cleared.due(worth(0, 3, member), y.make(worth(0, 3, member)));
        }
        duePlaces(cleared, 0, 9);
        duePlaces(cleared, 59, 1);
        duePlaces(cleared, 30, 4);
        duePlaces(cleared, 5, 0);
        cleared.due(force(0), 0);
        cleared.due(fault(), 2);
    }

    private static void clearSixty() {
        sentence("Promise 26: all JOBS are gone, of 60");
        Yard y = jobs(60).and(clear());
        for (int i = 0; i < 60; i++) {
            y.due(job(i, i), i);
        }
        y.refuses(job(0, 0));
    }

    private static void countOthers() {
        sentence("Promise 27: NONE for others");
        Yard y = new Yard().and(day(0, false), vessel(0), job(0, 0));
        y.due(count(0), 1);
        y.due(count(9), 0);
        for (int what : join(FAR, -1, 10, 11)) {
            y.due(count(what), NONE);
        }
        y.changesNothing(count(10), NONE);
        for (int what = 0; what < 10; what++) {
            y.changesNothing(count(what), y.make(count(what)));
        }
    }

    private static void countsOfTheFull() {
        sentence("Promise 27: 1 VESSELS, 2 VOTES, 3 PREMIUMS, 4 ENTRIES, 7 JOBS, 8 bytes of the TEXT, 9 coins, of the most");
        Yard y = sackedByAll(5);
        for (int i = 4; i < 100; i++) {
            y.make(vessel(0));
        }
        for (int i = 0; i < 50; i++) {
            voting(y, "g", 0);
        }
        for (int i = 0; i < 100; i++) {
            y.make(premium(3, 1_000_000));
        }
        for (int i = 0; i < 60; i++) {
            y.make(job(0, 0));
        }
        y.tell(many("x", 200));
        long[] wants = {0, 100, 50, 100, 2000, 100, 100, 60, 200, 100_000_000};
        for (int what = 0; what < wants.length; what++) {
            y.due(count(what), wants[what]);
        }
    }

    private static void countDry() {
        sentence("Promise 27: 5 DRY grams bought, 6 DRY grams in all VESSELS");
        Yard y = new Yard();
        for (int heap = 0; heap < 40; heap++) {
            y.make(vessel(0));
            buyMany(y, heap, heap, 1_000_000, 0);
        }
        y.due(count(5), 40_000_000);
        y.due(count(6), 40_000_000);
        Yard moved = mixed(3, 5, 10, 6, 7).and(buy(0, 1, 10, 900), move(0, 1, 1));
        moved.due(count(5), 18);
        moved.due(count(6), 18);
        moved.make(day(12, true));
        moved.due(count(6), 18);
    }
}
