import java.util.ArrayList;
import java.util.List;

/**
 * All that the calls show of a yard, as rows of calls that each want a new object: first the calls that only ask, then
 * calls that change it and show so what no other does (the text, how often a sack was cut, the places of a day ..).
 */
final class Looks extends Calls {
    private final Yard yard;
    private final List<List<Call>> rows = new ArrayList<>();
    private final int most;
    private final int vessels;
    private final int votes;

    private Looks(Yard yard) {
        this.yard = yard;
        most = yard.room() - 1;
        vessels = (int) yard.ask(count(1));
        votes = (int) yard.ask(count(2));
    }

    static List<List<Call>> of(Yard yard) {
        Looks it = new Looks(yard);
        it.addQuestions();
        it.addText();
        it.addDays();
        it.addVessels();
        it.addBooks();
        it.addPlan();
        return it.rows;
    }

    /** Calls that need not follow one another. */
    private void addLoose(List<Call> calls) {
        addBehind(List.of(), calls);
    }

    /** Calls that need not follow one another, but come behind some others. */
    private void addBehind(List<Call> first, List<Call> calls) {
        int step = most - first.size();
        for (int at = 0; at < calls.size(); at += step) {
            List<Call> row = new ArrayList<>(first);
            row.addAll(calls.subList(at, Math.min(at + step, calls.size())));
            rows.add(row);
        }
    }

    private void addQuestions() {
        List<Call> all = new ArrayList<>();
        for (int what = 0; what < 10; what++) {
            all.add(count(what));
        }
        all.add(fault());
        all.add(row(false));
        all.add(row(true));
        askVessels(all);
        askBooks(all);
        for (int job = 0; job <= yard.ask(count(7)); job++) {
            all.add(planned(job));
        }
        addLoose(all);
    }

    private void askVessels(List<Call> all) {
        for (int v = 0; v <= vessels; v++) {
            for (int what = 0; what < 9; what++) {
                all.add(told(v, what));
            }
            for (int plot = 0; plot < 60; plot++) {
                all.add(part(v, plot));
            }
        }
        for (int v : sacks()) {
            for (int member = 0; member < 20; member++) {
                all.add(worth(0, v, member));
                all.add(worth(10_000, v, member));
            }
        }
    }

    private void askBooks(List<Call> all) {
        for (int member = 0; member < 20; member++) {
            all.add(coins(member));
        }
        for (int i = 0; i <= yard.ask(count(4)); i++) {
            for (int what = 0; what < 4; what++) {
                all.add(entry(i, what));
            }
        }
        for (int vote = 0; vote <= votes; vote++) {
            for (int what = 0; what < 3; what++) {
                all.add(voted(vote, what));
            }
        }
        for (int day = 0; day <= yard.ask(count(0)) + 2; day++) {
            all.add(force(day));
        }
        all.add(force(10_000));
    }

    /** The sacks that hold something: the others show nothing more. */
    private List<Integer> sacks() {
        List<Integer> found = new ArrayList<>();
        for (int v = 0; v < vessels; v++) {
            if (yard.ask(told(v, 0)) == 3 && yard.ask(told(v, 1)) > 0) {
                found.add(v);
            }
        }
        return found;
    }

    private void addText() {
        List<Call> ends = new ArrayList<>();
        for (int n = (int) yard.ask(count(8)); n > 0; n--) {
            ends.add(end(n));
            ends.add(fault());
            if (ends.size() + 2 > most) {
                rows.add(ends);
                ends = new ArrayList<>();
            }
        }
        rows.add(ends);
        List<Call> worths = new ArrayList<>();
        for (int v : sacks()) {
            for (int member = 0; member < 20; member++) {
                worths.add(worth(0, v, member));
            }
        }
        addBehind(List.of(vote(0)), worths);
    }

    private void addDays() {
        List<Call> all = new ArrayList<>();
        all.add(count(0));
        for (int v = 0; v < vessels; v++) {
            all.add(told(v, 3));
            all.add(told(v, 5));
        }
        addBehind(List.of(day(12, false)), all);
        addBehind(List.of(day(0, true)), all);
    }

    private void addVessels() {
        List<Call> all = new ArrayList<>();
        for (int v = 0; v < vessels; v++) {
            all.add(turn(v));
            all.add(cover(v, true));
            all.add(buy(v, 59, 1, 0));
        }
        all.add(vessel(0));
        all.add(vessel(3));
        addLoose(all);
        List<Call> cuts = new ArrayList<>();
        for (int v : sacks()) {
            cuts.add(cut(v, 50, 0, 0));
            cuts.add(cut(v, 0, 0, 0));
            cuts.add(cut(v, 50, 0, 0));
        }
        addLoose(cuts);
        addMoves();
    }

    /** A gram from each vessel that has some to each of the next kind: an empty sack shows only so that it is not cut. */
    private void addMoves() {
        List<Call> moves = new ArrayList<>();
        for (int from = 0; from < vessels; from++) {
            if (yard.ask(told(from, 1)) == 0) {
                continue;
            }
            for (int to = 0; to < vessels; to++) {
                if (yard.ask(told(to, 0)) == yard.ask(told(from, 0)) + 1) {
                    moves.add(move(from, to, 1));
                }
            }
        }
        addLoose(moves);
    }

    private void addBooks() {
        List<Call> paid = new ArrayList<>();
        for (int v : sacks()) {
            paid.add(premium(v, 999_999));
        }
        paid.add(count(4));
        rows.add(paid);
        List<Call> taken = new ArrayList<>();
        for (int vote = 0; vote < votes; vote++) {
            taken.add(unvote(vote));
        }
        for (int member = 0; member < 20; member++) {
            taken.add(coins(member));
        }
        rows.add(taken);
    }

    /** Fills each day with jobs until it has no place left. */
    private void addPlan() {
        rows.add(List.of(job(0, 59), planned(0), row(true), row(false)));
        List<Call> row = new ArrayList<>();
        for (int day = 0; day < 60; day++) {
            if (row.size() + 21 > most) {
                rows.add(row);
                row = new ArrayList<>();
            }
            row.add(clear());
            for (int i = 0; i < 10; i++) {
                row.add(job(day, day));
                row.add(row(true));
            }
        }
        rows.add(row);
    }
}
