import java.util.ArrayList;
import java.util.List;

/**
 * "What is refused answers as told and changes nothing.": each call that can be refused, for each reason, on a yard with
 * something of everything and on one that is full. The calls that only ask change nothing either.
 */
public final class RefusedTest extends Yards {
    public static void main(String[] args) {
        numbersFarOutside();
        vessels();
        vesselsOfTheFull();
        text();
        textOfTheFull();
        books();
        booksOfTheFull();
        plan();
        planOfTheFull();
        refusedOneAfterTheOther();
        questions();
        questionsOfTheFull();
        Due.finish();
    }

    /**
     * Heaps 0 and 4, boxes 1 and 5 (turned), trays 2 (covered, wet) and 6 (dry enough), sacks 3 (cut twice, with
     * premiums), 7 (of grade 3), 8 (not cut), 9 (empty), 10 (of grade 2); votes 0, 1 (taken back) and 2.
     */
    private static Yard something() {
        Yard y = yard().and(vessel(0), vessel(1), vessel(2), vessel(3), vessel(3), vessel(3), vessel(3));
        y.and(buy(0, 0, 300, 0), buy(0, 21, 200, 0), buy(0, 59, 500, 0), move(0, 1, 800), move(1, 6, 700));
        y.and(move(6, 3, 100), move(6, 7, 100), move(6, 8, 100), move(6, 10, 100), buy(4, 7, 999, 600), move(4, 5, 400));
        y.and(move(5, 2, 300), cover(2, true), day(3, true), turn(5));
        y.and(cut(3, 50, 0, 0), cut(3, 40, 0, 0), cut(7, 9, 9, 9), cut(10, 0, 0, 0));
        voting(voting(voting(y, "p*q+g", 0), "p", 0), "g+10*p", 2);
        y.and(premium(3, 1000), unvote(1), premium(7, 77), day(12, false), turn(5), premium(10, 5));
        y.and(places(3, 1), places(4, 2), places(59, 9), job(3, 4), job(3, 3), job(0, 59));
        return y.tell("g*(q+ 12)");
    }

    /** 100 vessels (heap 4 to the brim), 50 votes, 100 premiums, 60 jobs, 200 bytes. */
    private static Yard full() {
        Yard y = sacked(0, 5, 21, 6);
        buyMany(y.and(vessel(0)), 4, 9, 1_000_000, 450);
        for (int i = 5; i < 100; i++) {
            y.make(vessel(i % 4));
        }
        y.and(buy(0, 3, 10, 0), move(0, 1, 5));
        for (int i = 0; i < 50; i++) {
            voting(y, i % 2 == 0 ? "g+" + i : "p", i / 10);
        }
        for (int i = 0; i < 100; i++) {
            y.make(premium(3, 100 + i));
        }
        for (int i = 0; i < 60; i++) {
            y.make(job(i / 9, 59));
        }
        for (int day = 0; day < 7; day++) {
            y.make(places(day, 9));
        }
        return y.tell(many("g+", 99) + "g ");
    }

    /** Calls that are taken on the yard with something: with one argument far outside each is refused. */
    private static List<Call> withOneFar(int far) {
        List<Call> all = new ArrayList<>();
        all.addAll(List.of(vessel(far), buy(far, 5, 10, 100), buy(0, far, 10, 100), buy(0, 5, far, 100), buy(0, 5, 10, far)));
        all.addAll(List.of(move(far, 1, 10), move(0, far, 10), move(0, 1, far), turn(far), cover(far, true), day(far, true)));
        all.addAll(List.of(cut(far, 1, 1, 1), cut(7, far, 1, 1), cut(7, 1, far, 1), cut(7, 1, 1, far)));
        all.addAll(List.of(vote(far), end(far), unvote(far), premium(far, 10), premium(3, far)));
        all.addAll(List.of(job(far, 5), job(5, far), places(far, 5), places(5, far)));
        return all;
    }

    private static void numbersFarOutside() {
        sentence("Terms: what is refused answers as told and changes nothing: numbers far outside");
        Yard y = something();
        Call[] taken = {vessel(0), buy(0, 5, 10, 100), move(0, 1, 10), turn(1), cover(6, true), day(5, true),
            cut(7, 1, 1, 1), vote(5), end(5), unvote(2), premium(3, 10), job(5, 5), places(5, 5)};
        for (Call call : taken) {
            Due.due(call + " is taken", y.ask(call) != call.refusal(), true);
        }
        for (int far : FAR) {
            for (Call call : withOneFar(far)) {
                y.refuses(call);
            }
        }
        for (Call call : withOneFar(-1)) {
            y.refuses(call);
        }
    }

    private static void vessels() {
        sentence("Promises 2 to 8: what is refused changes nothing: vessels");
        Yard y = something();
        y.refusesAll(vessel(4), buy(1, 5, 10, 0), buy(11, 5, 10, 0), buy(0, 60, 10, 0), buy(0, 5, 0, 0),
                buy(0, 5, 100_001, 0), buy(0, 5, 10, 901));
        y.refusesAll(move(0, 0, 10), move(0, 2, 10), move(1, 0, 10), move(0, 1, 0), move(0, 1, 201), move(11, 1, 1),
                move(0, 11, 1), move(2, 8, 1), move(2, 3, 1), move(6, 3, 1), move(6, 7, 1), move(6, 10, 1),
                move(8, 9, 1), move(3, 6, 1), move(9, 8, 1));
        y.would(move(6, 8, 1), 101);
        y.refusesAll(turn(5), turn(0), turn(2), turn(3), turn(11), cover(2, true), cover(6, false), cover(0, true),
                cover(1, false), cover(3, true), cover(11, true), day(13, false), day(13, true));
        y.refusesAll(cut(0, 0, 0, 0), cut(1, 0, 0, 0), cut(2, 0, 0, 0), cut(11, 0, 0, 0), cut(9, 0, 0, 0),
                cut(3, 0, 0, 0), cut(10, 0, 0, 0), cut(7, 101, 0, 0), cut(7, 50, 50, 1), cut(8, 0, 0, 101),
                cut(8, 34, 34, 33));
        y.would(cut(7, 0, 0, 0), 2);
        y.would(cut(8, 0, 0, 0), 2);
    }

    private static void vesselsOfTheFull() {
        sentence("Promises 2 to 4: what is refused changes nothing: 100 VESSELS, 1,000,000 grams");
        Yard y = full();
        y.refusesAll(vessel(0), vessel(3), vessel(4), buy(4, 9, 1, 0), buy(4, 9, 100_000, 900), move(0, 4, 1),
                move(4, 4, 1_000_000), move(4, 1, 999_996), move(4, 8, 1_000_001), buy(100, 0, 1, 0), move(0, 100, 1));
        y.would(move(4, 8, 1_000_000), 1_000_000);
        y.would(move(4, 1, 999_995), 1_000_000);
    }

    private static void text() {
        sentence("Promises 9 to 12: what is refused changes nothing: the TEXT");
        Yard y = something();
        y.refusesAll(vote(10_001), vote(-1), end(10), end(-1));
        y.would(vote(10_000), 3);
        Yard fault = something().tell("+");
        fault.refusesAll(vote(0), vote(10_000), vote(-1), end(11));
        Yard empty = something().and(end(0));
        empty.refusesAll(vote(0), end(1));
    }

    private static void textOfTheFull() {
        sentence("Promises 9, 10, 12: what is refused changes nothing: 200 bytes, 50 VOTES");
        Yard y = full();
        y.refusesAll(feed(0x20000000, 0, 0, 0, 0), feed(0, 0, 0, 0, 0x67), feed(-1, -1, -1, -1, -1), vote(0),
                vote(10_000), end(201));
        Yard room = y.again().and(end(195));
        room.refusesAll(feed(0x2b672b67, 0x2b670000, 0, 0, 0), feed(-1, -1, -1, -1, -1), vote(0), end(196));
        room.would(feed(0x2b672b67, 0x20000000, 0, 0, 0), 200);
    }

    private static void books() {
        sentence("Promises 13 and 14: what is refused changes nothing: VOTES, PREMIUMS");
        Yard y = something();
        y.refusesAll(unvote(1), unvote(3), unvote(-1), premium(8, 10), premium(9, 10), premium(0, 10), premium(1, 10),
                premium(2, 10), premium(11, 10), premium(3, 0), premium(3, 1_000_001));
        // by p*q+g 303, 211, 486 and 23, 16, 38; by g 300, 200, 500 and 23, 15, 39
        y.would(unvote(0), 5);
        y.would(premium(3, 1), 3);
    }

    private static void booksOfTheFull() {
        sentence("Promises 13 and 14: what is refused changes nothing: 50 VOTES, 100 PREMIUMS");
        Yard y = full();
        y.refusesAll(premium(3, 1), premium(3, 1_000_000), unvote(50), unvote(-1));
        Yard taken = y.again().and(unvote(49), unvote(0));
        taken.refusesAll(unvote(49), unvote(0), premium(3, 1), vote(0));
    }

    private static void plan() {
        sentence("Promises 22 and 23: what is refused changes nothing: JOBS, PLACES");
        Yard y = something();
        y.refusesAll(job(-1, 3), job(3, 60), job(4, 3), job(60, 60), places(-1, 3), places(60, 3), places(3, -1),
                places(3, 10), places(59, 10));
        y.would(job(3, 4), 3);
        Yard tight = something().and(job(3, 3));
        tight.due(row(true), 3);
        tight.refusesAll(job(4, 3), job(59, 60), places(3, 10), places(60, 9));
    }

    private static void planOfTheFull() {
        sentence("Promises 22 and 23: what is refused changes nothing: 60 JOBS");
        Yard y = full();
        y.due(planned(59), 6);
        y.refusesAll(job(0, 0), job(59, 59), job(0, 59), job(60, 60), places(60, 0), places(0, 10));
    }

    /** Each refused call behind all those before it: what one alone would not show, many may. */
    private static void refusedOneAfterTheOther() {
        sentence("Terms: what is refused changes nothing, many times");
        Yard y = something();
        Yard busy = something();
        for (int i = 0; i < 20; i++) {
            busy.and(vessel(4), buy(0, 60, 10, 0), move(0, 2, 10), turn(5), cover(2, true), day(13, false),
                    cut(7, 50, 50, 1), vote(10_001), end(10), unvote(1), premium(8, 10), job(4, 3), places(3, 10));
        }
        List<Call> asked = new ArrayList<>();
        List<Long> wants = new ArrayList<>();
        for (List<Call> row : Looks.of(y)) {
            for (Call call : row) {
                if (!call.changes()) {
                    asked.add(call);
                    wants.add(y.ask(call));
                }
            }
        }
        busy.dueAll(asked, wants, "behind 260 refused calls ");
        busy.due(cut(7, 0, 0, 0), 2);
        busy.due(vessel(0), 11);
        busy.due(vote(0), 3);
        busy.due(premium(3, 1), 3);
        busy.due(job(3, 4), 3);
    }

    private static List<Call> someQuestions() {
        List<Call> all = new ArrayList<>();
        int[] numbers = {LEAST, -1, 0, 1, 3, 7, 59, 60, 99, 100, MOST};
        all.addAll(List.of(fault(), row(false), row(true)));
        for (int n : numbers) {
            all.addAll(List.of(part(n, 0), part(6, n), told(n, 1), told(3, n), coins(n), entry(n, 3), entry(1, n)));
            all.addAll(List.of(worth(n, 3, 0), worth(0, n, 0), worth(0, 3, n), force(n), voted(n, 2), voted(0, n)));
            all.addAll(List.of(planned(n), count(n)));
        }
        return all;
    }

    private static void questions() {
        sentence("Promises 11, 15 to 21, 24, 25, 27: what only tells changes nothing");
        Yard y = something();
        for (Call call : someQuestions()) {
            y.changesNothing(call, y.ask(call));
        }
        Yard tight = something().and(job(3, 3), job(3, 4), job(3, 4)).tell("(");
        for (Call call : someQuestions()) {
            tight.changesNothing(call, tight.ask(call));
        }
    }

    private static void questionsOfTheFull() {
        sentence("Promises 11, 24, 25, 27: what only tells changes nothing of the full");
        Yard y = full();
        Call[] some = {fault(), row(true), row(false), planned(59), planned(60), worth(0, 3, 1), count(6), told(4, 4)};
        for (Call call : some) {
            y.changesNothing(call, y.ask(call));
        }
    }
}
