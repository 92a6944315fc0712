import java.math.BigInteger;
import java.util.ArrayList;
import java.util.List;
import java.util.Map;
import java.util.TreeMap;

/** The document's words once more, as plainly as can be and by other ways than the class: what ModelTest measures it by. */
final class Model {
    static final int NONE = -1;

    static final class Vessel {
        int kind;
        TreeMap<Integer, Long> dry = new TreeMap<>();
        long water;
        long taste;
        boolean turned;
        boolean covered;
        List<Integer> grades = new ArrayList<>();

        long dryAll() {
            return dry.values().stream().mapToLong(Long::longValue).sum();
        }

        long weight() {
            return dryAll() + water;
        }

        long wetness() {
            return weight() == 0 ? 0 : 1000 * water / weight();
        }

        int grade() {
            return grades.isEmpty() ? 0 : grades.get(grades.size() - 1);
        }

        void give(int plot, long grams) {
            dry.merge(plot, grams, Long::sum);
            dry.values().removeIf(g -> g == 0);
        }

        Vessel frozen() {
            Vessel other = new Vessel();
            other.kind = kind;
            other.dry.putAll(dry);
            other.grades.add(grade());
            return other;
        }
    }

    record Vote(String text, int from, boolean[] back) {
    }

    static final class Premium {
        long day;
        int coins;
        Vessel sack;
        int vote;
        Map<Integer, Long> shares;
    }

    record Job(int first, int last) {
    }

    final List<Vessel> vessels = new ArrayList<>();
    final List<Vote> votes = new ArrayList<>();
    final List<Premium> premiums = new ArrayList<>();
    final List<long[]> entries = new ArrayList<>();
    final List<Job> jobs = new ArrayList<>();
    final TreeMap<Integer, Integer> placesOf = new TreeMap<>();
    String text = "";
    long today;
    long paid;

    Vessel of(int kind, int n) {
        return n >= 0 && n < vessels.size() && (kind < 0 || vessels.get(n).kind == kind) ? vessels.get(n) : null;
    }

    static boolean in(long n, long a, long b) {
        return a <= n && n <= b;
    }

    static Map<Integer, Long> parted(long n, TreeMap<Integer, Long> measures) {
        long sum = measures.values().stream().mapToLong(Long::longValue).sum();
        TreeMap<Integer, Long> shares = new TreeMap<>();
        if (sum == 0) {
            return shares;
        }
        List<BigInteger[]> rests = new ArrayList<>();
        long left = n;
        for (var e : measures.entrySet()) {
            BigInteger[] qr = BigInteger.valueOf(n).multiply(BigInteger.valueOf(e.getValue()))
                    .divideAndRemainder(BigInteger.valueOf(sum));
            shares.put(e.getKey(), qr[0].longValueExact());
            left -= qr[0].longValueExact();
            rests.add(new BigInteger[] {qr[1], BigInteger.valueOf(e.getKey())});
        }
        rests.sort((x, y) -> x[0].equals(y[0]) ? x[1].compareTo(y[1]) : y[0].compareTo(x[0]));
        for (int i = 0; i < left; i++) {
            shares.merge(rests.get(i)[1].intValue(), 1L, Long::sum);
        }
        return shares;
    }

    long vessel(int kind) {
        if (!in(kind, 0, 3) || vessels.size() == 100) {
            return NONE;
        }
        Vessel v = new Vessel();
        v.kind = kind;
        vessels.add(v);
        return vessels.size() - 1;
    }

    long buy(int vessel, int plot, int grams, int wetness) {
        Vessel v = of(0, vessel);
        if (v == null || !in(plot, 0, 59) || !in(grams, 1, 100000) || !in(wetness, 0, 900)
                || v.weight() + grams > 1000000) {
            return NONE;
        }
        long water = (long) grams * wetness / 1000;
        v.water += water;
        v.give(plot, grams - water);
        paid += grams - water;
        return v.weight();
    }

    long move(int from, int to, int grams) {
        Vessel a = of(-1, from);
        Vessel b = of(-1, to);
        if (a == null || b == null || a == b || a.kind == 3 || !(a.kind == b.kind || a.kind + 1 == b.kind)) {
            return NONE;
        }
        if (b.kind == 3 && (a.wetness() > 75 || !b.grades.isEmpty())) {
            return NONE;
        }
        if (!in(grams, 1, a.weight()) || b.weight() + grams > 1000000) {
            return NONE;
        }
        long water = grams * a.water / a.weight();
        b.taste = (b.weight() * b.taste + grams * a.taste) / (b.weight() + grams);
        for (var e : parted(grams - water, new TreeMap<>(a.dry)).entrySet()) {
            a.give(e.getKey(), -e.getValue());
            b.give(e.getKey(), e.getValue());
        }
        a.water -= water;
        b.water += water;
        return b.weight();
    }

    boolean turn(int box) {
        Vessel v = of(1, box);
        if (v == null || v.turned) {
            return false;
        }
        v.turned = true;
        return true;
    }

    boolean cover(int tray, boolean is) {
        Vessel v = of(2, tray);
        if (v == null || v.covered == is) {
            return false;
        }
        v.covered = is;
        return true;
    }

    long day(int sun, boolean rain) {
        if (!in(sun, 0, 12)) {
            return NONE;
        }
        for (Vessel v : vessels) {
            if (v.kind == 1 && v.weight() > 0) {
                v.taste = Math.min(100, v.taste + (v.turned ? 12 : 7));
            }
            if (v.kind == 2 && !v.covered) {
                v.water = rain ? v.water + v.dryAll() / 10 : Math.max(0, v.water - sun * v.dryAll() / 40);
            }
            if (v.kind == 0 && v.weight() > 0) {
                v.taste = Math.min(100, v.taste + 1);
            }
            v.turned = false;
        }
        return ++today;
    }

    long cut(int sack, int mouldy, int slaty, int flat) {
        Vessel v = of(3, sack);
        if (v == null || v.weight() == 0 || !in(mouldy, 0, 100) || !in(slaty, 0, 100) || !in(flat, 0, 100)
                || mouldy + slaty + flat > 100) {
            return NONE;
        }
        if (v.grades.size() >= 2 || (v.grades.size() == 1 && v.grade() != 3)) {
            return NONE;
        }
        int grade = 3;
        if (mouldy <= 4 && slaty <= 8 && flat <= 6) {
            grade = 2;
        }
        if (Math.max(mouldy, Math.max(slaty, flat)) <= 3 && in(v.taste, 50, 90)) {
            grade = 1;
        }
        v.grades.add(grade);
        return grade;
    }

    long feed(int[] five) {
        StringBuilder more = new StringBuilder(text);
        for (int n : five) {
            for (byte b : BigInteger.valueOf(n & 0xffffffffL).add(BigInteger.ONE.shiftLeft(32)).toByteArray()) {
                more.append((char) (b & 255));
            }
            more.deleteCharAt(more.length() - 5);
        }
        String all = more.toString().replace("\0", "");
        if (all.length() > 200) {
            return NONE;
        }
        text = all;
        return text.length();
    }

    long fault() {
        return new Parser(text, 0, 0, 0).faultOf();
    }

    long vote(int from) {
        if (fault() != NONE || !in(from, 0, 10000) || votes.size() == 50) {
            return NONE;
        }
        votes.add(new Vote(text, from, new boolean[1]));
        text = "";
        return votes.size() - 1;
    }

    boolean end(int n) {
        if (!in(n, 0, text.length())) {
            return false;
        }
        text = text.substring(0, n);
        return true;
    }

    int inForce(long day) {
        int best = NONE;
        for (int i = 0; i < votes.size(); i++) {
            if (!votes.get(i).back()[0] && votes.get(i).from() <= day) {
                best = i;
            }
        }
        return best;
    }

    static TreeMap<Integer, Long> gramsOf(Vessel sack) {
        TreeMap<Integer, Long> grams = new TreeMap<>();
        sack.dry.forEach((plot, g) -> grams.merge(plot % 20, g, Long::sum));
        return grams;
    }

    long tells(int vote, Vessel sack, int member) {
        long g = gramsOf(sack).getOrDefault(member, 0L);
        long p = sack.dry.keySet().stream().filter(plot -> plot % 20 == member).count();
        String it = vote == NONE ? "g" : votes.get(vote).text();
        return new Parser(it, g, sack.grade(), p).worth();
    }

    Map<Integer, Long> sharesOf(Premium it) {
        TreeMap<Integer, Long> measures = new TreeMap<>();
        for (int member : gramsOf(it.sack).keySet()) {
            measures.put(member, tells(it.vote, it.sack, member));
        }
        boolean zero = measures.values().stream().allMatch(m -> m == 0);
        return parted(it.coins, zero ? gramsOf(it.sack) : measures);
    }

    long unvote(int vote) {
        if (!in(vote, 0, votes.size() - 1) || votes.get(vote).back()[0]) {
            return NONE;
        }
        votes.get(vote).back()[0] = true;
        long made = 0;
        for (int i = 0; i < premiums.size(); i++) {
            Premium it = premiums.get(i);
            if (it.vote != vote) {
                continue;
            }
            it.vote = inForce(it.day);
            Map<Integer, Long> before = it.shares;
            it.shares = sharesOf(it);
            for (int member : it.shares.keySet()) {
                long more = it.shares.get(member) - before.get(member);
                if (more != 0) {
                    entries.add(new long[] {today, i, member, more});
                    made++;
                }
            }
        }
        return made;
    }

    long premium(int sack, int coins) {
        Vessel v = of(3, sack);
        if (v == null || v.grade() == 0 || !in(coins, 1, 1000000) || premiums.size() == 100) {
            return NONE;
        }
        Premium it = new Premium();
        it.day = today;
        it.coins = coins;
        it.sack = v.frozen();
        it.vote = inForce(today);
        it.shares = sharesOf(it);
        it.shares.forEach((member, c) -> entries.add(new long[] {today, premiums.size(), member, c}));
        premiums.add(it);
        return premiums.size() - 1;
    }

    long part(int vessel, int plot) {
        Vessel v = of(-1, vessel);
        return v == null ? 0 : v.dry.getOrDefault(plot, 0L);
    }

    long told(int vessel, int what) {
        Vessel v = of(-1, vessel);
        if (v == null || !in(what, 0, 8)) {
            return NONE;
        }
        long[] all = {v.kind, v.weight(), v.dryAll(), v.water, v.wetness(), v.taste,
            v.turned || v.covered ? 1 : 0, v.grade(), v.dry.size()};
        return all[what];
    }

    long coins(int member) {
        return entries.stream().filter(e -> e[2] == member).mapToLong(e -> e[3]).sum();
    }

    long entry(int i, int what) {
        return in(i, 0, entries.size() - 1) && in(what, 0, 3) ? entries.get(i)[what] : 0;
    }

    long worth(int day, int sack, int member) {
        Vessel v = of(3, sack);
        return v == null || !in(day, 0, 10000) || !in(member, 0, 19) ? NONE : tells(inForce(day), v, member);
    }

    long force(int day) {
        return in(day, 0, 10000) ? inForce(day) : NONE;
    }

    long voted(int vote, int what) {
        if (!in(vote, 0, votes.size() - 1) || !in(what, 0, 2)) {
            return NONE;
        }
        Vote v = votes.get(vote);
        return what == 0 ? v.from() : what == 1 ? (v.back()[0] ? 1 : 0)
                : premiums.stream().filter(p -> p.vote == vote).count();
    }

    long job(int first, int last) {
        if (!in(first, 0, 59) || !in(last, first, 59) || jobs.size() == 60) {
            return NONE;
        }
        jobs.add(new Job(first, last));
        return jobs.size() - 1;
    }

    boolean places(int day, int n) {
        if (!in(day, 0, 59) || !in(n, 0, 9)) {
            return false;
        }
        placesOf.put(day, n);
        return true;
    }

    TreeMap<Integer, Integer> plan() {
        TreeMap<Integer, Integer> days = new TreeMap<>();
        for (int day = 0; day < 60; day++) {
            int today = day;
            List<Integer> may = new ArrayList<>();
            for (int j = 0; j < jobs.size(); j++) {
                if (!days.containsKey(j) && in(today, jobs.get(j).first(), jobs.get(j).last())) {
                    may.add(j);
                }
            }
            may.sort((x, y) -> jobs.get(x).last() - jobs.get(y).last());
            may.stream().limit(placesOf.getOrDefault(day, 0)).forEach(j -> days.put(j, today));
        }
        return days;
    }

    long planned(int job) {
        TreeMap<Integer, Integer> days = plan();
        return days.size() < jobs.size() || !days.containsKey(job) ? NONE : days.get(job);
    }

    long row(boolean last) {
        if (plan().size() == jobs.size()) {
            return NONE;
        }
        for (int b = 0; b < 60; b++) {
            for (int a = b; a >= 0; a--) {
                int from = a;
                int to = b;
                long within = jobs.stream().filter(j -> j.first() >= from && j.last() <= to).count();
                int there = placesOf.subMap(a, b + 1).values().stream().mapToInt(n -> n).sum();
                if (within > there) {
                    return last ? b : a;
                }
            }
        }
        throw new IllegalStateException("jobs without a day, and no row");
    }

    long count(int what) {
        switch (what) {
            case 0: return today;
            case 1: return vessels.size();
            case 2: return votes.size();
            case 3: return premiums.size();
            case 4: return entries.size();
            case 5: return paid;
            case 6: return vessels.stream().mapToLong(Vessel::dryAll).sum();
            case 7: return jobs.size();
            case 8: return text.length();
            case 9: return premiums.stream().mapToLong(p -> p.coins).sum();
            default: return NONE;
        }
    }

    /** By descent through the grammar. */
    static final class Parser {
        final String text;
        final long g;
        final long q;
        final long p;
        int at;
        int open;

        static final class Fault extends RuntimeException {
            private static final long serialVersionUID = 1;
        }

        Parser(String text, long g, long q, long p) {
            this.text = text;
            this.g = g;
            this.q = q;
            this.p = p;
        }

        int faultOf() {
            try {
                sum();
                return at == text.length() ? NONE : at;
            } catch (Fault f) {
                return at;
            }
        }

        long worth() {
            return Math.min(1000000000L, Math.max(0L, sum()));
        }

        char next() {
            while (at < text.length() && text.charAt(at) == ' ') {
                at++;
            }
            return at < text.length() ? text.charAt(at) : '\0';
        }

        long sum() {
            long sum = product();
            while (next() == '+' || next() == '-') {
                boolean plus = next() == '+';
                at++;
                long more = product();
                sum = plus ? sum + more : sum - more;
            }
            return sum;
        }

        long product() {
            long product = factor();
            while (next() == '*') {
                at++;
                product *= factor();
            }
            return product;
        }

        long factor() {
            char c = next();
            if (c == '(' && open < 8) {
                at++;
                open++;
                long value = sum();
                if (next() != ')') {
                    throw new Fault();
                }
                at++;
                open--;
                return value;
            }
            if (c == 'g' || c == 'q' || c == 'p') {
                at++;
                return c == 'g' ? g : c == 'q' ? q : p;
            }
            int from = at;
            while (at < text.length() && at < from + 4 && "0123456789".indexOf(text.charAt(at)) >= 0) {
                at++;
            }
            if (at == from || (at < text.length() && "0123456789".indexOf(text.charAt(at)) >= 0)) {
                throw new Fault();
            }
            return Long.parseLong(text.substring(from, at));
        }
    }
}
