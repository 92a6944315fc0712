import java.util.ArrayList;
import java.util.List;
import java.util.Random;

/** Long runs of calls, the same each time, whose every answer must be the model's; the whole state is looked at too. */
public final class ModelTest extends Calls {
    private static final int[] EDGES = {-1, 0, 1, 2, 59, 60, 99, 100, 101, Integer.MIN_VALUE, Integer.MAX_VALUE};

    private final Random random;
    private final Yard yard = new Yard();
    private final Model model = new Model();
    private final String run;
    private final List<Call> asked = new ArrayList<>();
    private final List<Long> wants = new ArrayList<>();

    private ModelTest(int seed) {
        random = new Random(seed);
        run = "run " + seed + ": ";
    }

    public static void main(String[] args) {
        int runs = args.length > 0 ? Integer.parseInt(args[0]) : 300;
        for (int seed = 0; seed < runs; seed++) {
            new ModelTest(seed).go();
        }
        Due.finish();
    }

    private void go() {
        int style = random.nextInt(4);
        int most = 60 + to(400);
        int next = 50;
        for (int i = 0; i < 6; i++) {
            make(i < 4 ? i : random.nextInt(4));
        }
        while (yard.made() < most) {
            step(style);
            if (yard.made() > next) {
                lookAround();
                next += 100;
            }
        }
        lookAround();
    }

    private int to(int most) {
        return random.nextInt(most + 1);
    }

    /** Mostly a number within bounds, now and then one at or beyond the edges. */
    private int near(int most) {
        int at = to(60);
        return at == 0 ? EDGES[to(EDGES.length - 1)] : at == 1 ? most + 1 : at == 2 ? most : to(most);
    }

    private int someVessel(int kind) {
        int from = to(Math.max(0, model.vessels.size() - 1));
        for (int i = 0; i < model.vessels.size(); i++) {
            int at = (from + i) % model.vessels.size();
            if (model.vessels.get(at).kind == kind) {
                return to(40) == 0 ? near(model.vessels.size()) : at;
            }
        }
        return near(5);
    }

    private void step(int style) {
        int which = to(99);
        if (style == 0 || which < 35) {
            workYard();
        } else if (style == 1 || which < 75) {
            workBooks();
        } else {
            workPlan();
        }
    }

    private void workYard() {
        switch (to(13)) {
            case 0: make(near(3)); break;
            case 1: case 2: case 3: buy(); break;
            case 4: case 5: case 6: case 7: case 8: move(); break;
            case 9: turn(); break;
            case 10: cover(); break;
            case 11: case 12: day(); break;
            default: cut(); break;
        }
    }

    private void workBooks() {
        switch (to(9)) {
            case 0: feedAnything(); break;
            case 1: case 2: case 3: tellVote(); break;
            case 4: unvote(); break;
            case 5: cut(); break;
            default: premium(); break;
        }
    }

    private void make(int kind) {
        due(vessel(kind), model.vessel(kind));
    }

    private void buy() {
        int v = someVessel(0);
        int plot = near(59);
        int grams = to(2) == 0 ? near(100000) : 1 + to(300);
        int wetness = to(1) == 0 ? near(900) : to(80);
        due(buy(v, plot, grams, wetness), model.buy(v, plot, grams, wetness));
    }

    private void move() {
        int kind = to(2);
        int from = someVessel(kind);
        int to = someVessel(to(5) == 0 ? to(3) : to(3) == 0 ? kind : kind + 1);
        int weight = (int) Math.max(0, model.told(from, 1));
        int grams = to(3) == 0 ? weight : near(weight);
        due(move(from, to, grams), model.move(from, to, grams));
    }

    private void turn() {
        int v = to(4) == 0 ? someVessel(to(3)) : someVessel(1);
        due(turn(v), model.turn(v));
    }

    private void cover() {
        int v = to(4) == 0 ? someVessel(to(3)) : someVessel(2);
        boolean is = random.nextBoolean();
        due(cover(v, is), model.cover(v, is));
    }

    private void day() {
        int sun = to(2) == 0 ? 12 : near(12);
        boolean rain = to(4) == 0;
        due(day(sun, rain), model.day(sun, rain));
    }

    private void cut() {
        int v = to(9) == 0 ? someVessel(to(3)) : someVessel(3);
        int most = to(2) == 0 ? 100 : 9;
        int a = near(most);
        int b = near(most);
        int c = near(most);
        due(cut(v, a, b, c), model.cut(v, a, b, c));
    }

    private void feed(int[] five) {
        due(feed(five[0], five[1], five[2], five[3], five[4]), model.feed(five));
        due(fault(), model.fault());
    }

    private void feedAnything() {
        String signs = "gqp0123456789+-*()  ((g)))\0x";
        int[] five = new int[5];
        for (int i = 0; i < 20; i++) {
            int one = to(50) == 0 ? to(255) : signs.charAt(to(signs.length() - 1));
            five[i / 4] |= one << (8 * (3 - i % 4));
        }
        if (to(2) > 0) {
            five[1 + to(3)] = 0;
            five[4] = 0;
        }
        feed(five);
        int n = near(model.text.length());
        due(end(n), model.end(n));
        due(fault(), model.fault());
    }

    private String sum(int depth) {
        StringBuilder text = new StringBuilder(factor(depth));
        for (int i = to(3); i > 0; i--) {
            text.append(" ".repeat(to(5) / 5)).append("+-**".charAt(to(3))).append(" ".repeat(to(5) / 5));
            text.append(factor(depth));
        }
        return text.toString();
    }

    private String factor(int depth) {
        switch (to(7)) {
            case 0: return "q";
            case 1: return "p";
            case 2: return String.valueOf(to(to(2) == 0 ? 9999 : 9));
            case 3: case 4: return depth == 0 ? "g" : "(" + sum(depth - 1) + ")";
            default: return "g";
        }
    }

    private void tellVote() {
        if (to(9) > 0) {
            due(end(0), model.end(0));
        }
        String text = sum(to(3));
        for (int at = 0; at < text.length(); at += 20) {
            int[] five = new int[5];
            for (int i = 0; i < 20 && at + i < text.length(); i++) {
                five[i / 4] |= text.charAt(at + i) << (8 * (3 - i % 4));
            }
            feed(five);
        }
        int from = to(5) == 0 ? near(10000) : to((int) model.today + 2);
        due(vote(from), model.vote(from));
    }

    private void unvote() {
        int vote = near(model.votes.size());
        due(unvote(vote), model.unvote(vote));
    }

    private void premium() {
        int v = to(9) == 0 ? someVessel(to(3)) : someVessel(3);
        int coins = to(2) == 0 ? near(1000000) : 1 + to(500);
        due(premium(v, coins), model.premium(v, coins));
    }

    private void workPlan() {
        int many = to(3) == 0 ? 1 : 9;
        if (to(60) == 0) {
            yard.make(clear());
            model.jobs.clear();
        } else if (to(2) == 0) {
            int first = near(59);
            int last = to(2) == 0 ? near(59) : first < 59 && first >= 0 ? first + to(Math.min(12, 59 - first)) : first;
            due(job(first, last), model.job(first, last));
        } else {
            int day = near(59);
            int n = near(many);
            due(places(day, n), model.places(day, n));
        }
        int job = near(model.jobs.size());
        due(planned(job), model.planned(job));
        due(row(false), model.row(false));
        due(row(true), model.row(true));
    }

    /** Asks for all that there is, and for what lies around it. */
    private void lookAround() {
        asked.clear();
        wants.clear();
        for (int what = -1; what <= 10; what++) {
            ask(count(what), model.count(what));
        }
        lookAtVessels();
        lookAtBooks();
        for (int i = -1; i <= model.jobs.size(); i++) {
            ask(planned(i), model.planned(i));
        }
        yard.dueAll(asked, wants, run + "behind " + yard.made() + " calls ");
    }

    private void lookAtVessels() {
        for (int v = -1; v <= model.vessels.size(); v++) {
            for (int what = -1; what <= 9; what++) {
                ask(told(v, what), model.told(v, what));
            }
            for (int plot = -1; plot <= 60; plot++) {
                ask(part(v, plot), model.part(v, plot));
            }
            for (int member = -1; member <= 20; member++) {
                int day = near(to(1) == 0 ? 10000 : (int) model.today + 1);
                ask(worth(day, v, member), model.worth(day, v, member));
                ask(force(day), model.force(day));
            }
        }
    }

    private void lookAtBooks() {
        for (int member = -1; member <= 20; member++) {
            ask(coins(member), model.coins(member));
        }
        for (int i = -1; i <= model.entries.size(); i++) {
            for (int what = -1; what <= 4; what++) {
                ask(entry(i, what), model.entry(i, what));
            }
        }
        for (int i = -1; i <= model.votes.size(); i++) {
            for (int what = -1; what <= 3; what++) {
                ask(voted(i, what), model.voted(i, what));
            }
        }
    }

    private void ask(Call call, long want) {
        asked.add(call);
        wants.add(want);
    }

    private void due(Call call, long want) {
        Due.due(run + call, yard.make(call), want);
    }

    private void due(Call call, boolean want) {
        due(call, want ? 1 : 0);
    }
}
