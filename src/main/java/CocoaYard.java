import java.util.Arrays;

/** The books of a cocoa growers' cooperative; ../shared/DOC.md tells what each call promises. */
public final class CocoaYard {
    public static final int NONE = -1;

    private static final int MEMBERS = 20;
    private static final int PLOTS = 60;

    private static final int HEAP = 0;
    private static final int BOX = 1;
    private static final int TRAY = 2;
    private static final int SACK = 3;

    private static final int MOST_VESSELS = 100;
    private static final int MOST_WEIGHT = 1_000_000;
    private static final int MOST_BOUGHT = 100_000;
    private static final int MOST_WETNESS_BOUGHT = 900;
    private static final int MOST_WETNESS_SACKED = 75;
    private static final int MOST_TASTE = 100;
    private static final int MOST_SUN = 12;
    private static final int BEANS_CUT = 100;
    private static final int WORST_GRADE = 3;

    private static final int MOST_BYTES = 200;
    private static final int MOST_DIGITS = 4;
    private static final int MOST_DEPTH = 8;
    private static final int MOST_VOTES = 50;
    private static final int LAST_VOTE_DAY = 10_000;
    private static final long MOST_TOLD = 1_000_000_000L;

    private static final int MOST_PREMIUMS = 100;
    private static final int MOST_COINS = 1_000_000;
    private static final int ENTRY_CELLS = 4;
    private static final int FIRST_ENTRIES = 32;

    private static final int PLAN_DAYS = 60;
    private static final int MOST_JOBS = 60;
    private static final int MOST_PLACES = 9;

    private final Vessel[] vessels;
    private int vesselCount;
    private int today;
    private long dryBought;
    private final Parting parting;
    private final Text draft;
    private final Votes votes;
    private final Premiums premiums;
    private final Plan plan;

    public CocoaYard() {
        vessels = new Vessel[MOST_VESSELS];
        parting = new Parting();
        draft = new Text(MOST_BYTES);
        votes = new Votes();
        premiums = new Premiums();
        plan = new Plan();
    }

    public int vessel(int kind) {
        if (kind < HEAP || kind > SACK || vesselCount >= MOST_VESSELS) {
            return NONE;
        }
        vessels[vesselCount] = new Vessel(kind);
        return vesselCount++;
    }

    public int buy(int vessel, int plot, int grams, int wetness) {
        Vessel heap = vesselOf(HEAP, vessel);
        if (heap == null || !isWithin(plot, 0, PLOTS - 1)) {
            return NONE;
        }
        if (!isWithin(grams, 1, MOST_BOUGHT) || !isWithin(wetness, 0, MOST_WETNESS_BOUGHT)) {
            return NONE;
        }
        if (grams > MOST_WEIGHT - heap.weight()) {
            return NONE;
        }
        int water = grams * wetness / 1000;
        heap.pourIn(plot, grams - water, water);
        dryBought += grams - water;
        return heap.weight();
    }

    public int move(int from, int to, int grams) {
        Vessel source = vesselAt(from);
        Vessel target = vesselAt(to);
        if (source == null || target == null || from == to || !source.mayGoTo(target)) {
            return NONE;
        }
        if (!isWithin(grams, 1, source.weight()) || grams > MOST_WEIGHT - target.weight()) {
            return NONE;
        }
        source.pourOver(target, grams, parting);
        return target.weight();
    }

    public boolean turn(int box) {
        return setMark(vesselOf(BOX, box), true);
    }

    public boolean cover(int tray, boolean is) {
        return setMark(vesselOf(TRAY, tray), is);
    }

    public int day(int sun, boolean rain) {
        if (!isWithin(sun, 0, MOST_SUN)) {
            return NONE;
        }
        for (int i = 0; i < vesselCount; i++) {
            vessels[i].passDay(sun, rain);
        }
        today++;
        return today;
    }

    public int cut(int sack, int mouldy, int slaty, int flat) {
        Vessel it = vesselOf(SACK, sack);
        if (it == null || !it.mayBeCut() || !areCounts(mouldy, slaty, flat)) {
            return NONE;
        }
        it.takeCut(mouldy, slaty, flat);
        return it.grade;
    }

    public int feed(int a, int b, int c, int d, int e) {
        int more = Text.bytesIn(a) + Text.bytesIn(b) + Text.bytesIn(c) + Text.bytesIn(d) + Text.bytesIn(e);
        if (more > MOST_BYTES - draft.length) {
            return NONE;
        }
        draft.append(a);
        draft.append(b);
        draft.append(c);
        draft.append(d);
        draft.append(e);
        return draft.length;
    }

    public int vote(int from) {
        if (!isWithin(from, 0, LAST_VOTE_DAY) || draft.firstFault() != NONE) {
            return NONE;
        }
        int number = votes.add(from, draft);
        if (number != NONE) {
            draft.cutTo(0);
        }
        return number;
    }

    public int fault() {
        return draft.firstFault();
    }

    public boolean end(int n) {
        if (!isWithin(n, 0, draft.length)) {
            return false;
        }
        draft.cutTo(n);
        return true;
    }

    public int unvote(int vote) {
        Vote it = votes.at(vote);
        if (it == null || it.takenBack) {
            return NONE;
        }
        it.takenBack = true;
        return premiums.partAnew(vote, votes, today);
    }

    public int premium(int sack, int coins) {
        Vessel it = vesselOf(SACK, sack);
        if (it == null || it.grade == 0 || !isWithin(coins, 1, MOST_COINS)) {
            return NONE;
        }
        return premiums.add(it, coins, votes, today);
    }

    public int part(int vessel, int plot) {
        Vessel it = vesselAt(vessel);
        return it == null || !isWithin(plot, 0, PLOTS - 1) ? 0 : it.dry[plot];
    }

    public int told(int vessel, int what) {
        Vessel it = vesselAt(vessel);
        return it == null ? NONE : it.tell(what);
    }

    public int coins(int member) {
        return isWithin(member, 0, MEMBERS - 1) ? premiums.ledger.coinsOf[member] : 0;
    }

    public int entry(int i, int what) {
        return premiums.ledger.cell(i, what);
    }

    public long worth(int day, int sack, int member) {
        Vessel it = vesselOf(SACK, sack);
        if (it == null || !isWithin(day, 0, LAST_VOTE_DAY) || !isWithin(member, 0, MEMBERS - 1)) {
            return NONE;
        }
        return votes.tellOf(votes.inForce(day), it, it.grade, member);
    }

    public int force(int day) {
        return isWithin(day, 0, LAST_VOTE_DAY) ? votes.inForce(day) : NONE;
    }

    public int voted(int vote, int what) {
        Vote it = votes.at(vote);
        if (it == null) {
            return NONE;
        }
        switch (what) {
            case 0: return it.from;
            case 1: return it.takenBack ? 1 : 0;
            case 2: return premiums.partedBy(vote);
            default: return NONE;
        }
    }

    public int job(int first, int last) {
        if (first < 0 || first > last || last >= PLAN_DAYS) {
            return NONE;
        }
        return plan.add(first, last);
    }

    public boolean places(int day, int n) {
        if (!isWithin(day, 0, PLAN_DAYS - 1) || !isWithin(n, 0, MOST_PLACES)) {
            return false;
        }
        plan.placesOf[day] = n;
        return true;
    }

    public int planned(int job) {
        if (!isWithin(job, 0, plan.jobs - 1) || !plan.giveDays()) {
            return NONE;
        }
        return plan.dayOf[job];
    }

    public int row(boolean last) {
        return plan.tightRow(last);
    }

    public void clear() {
        plan.jobs = 0;
    }

    public long count(int what) {
        switch (what) {
            case 0: return today;
            case 1: return vesselCount;
            case 2: return votes.size;
            case 3: return premiums.size;
            case 4: return premiums.ledger.size;
            case 5: return dryBought;
            case 6: return dryInAll();
            case 7: return plan.jobs;
            case 8: return draft.length;
            case 9: return premiums.coinsOfAll;
            default: return NONE;
        }
    }

    private Vessel vesselAt(int number) {
        return number >= 0 && number < vesselCount ? vessels[number] : null;
    }

    private Vessel vesselOf(int kind, int number) {
        Vessel it = vesselAt(number);
        return it != null && it.kind == kind ? it : null;
    }

    private long dryInAll() {
        long sum = 0;
        for (int i = 0; i < vesselCount; i++) {
            sum += vessels[i].dryGrams;
        }
        return sum;
    }

    private static boolean isWithin(int n, int least, int most) {
        return n >= least && n <= most;
    }

    private static boolean areCounts(int mouldy, int slaty, int flat) {
        return isWithin(mouldy, 0, BEANS_CUT) && isWithin(slaty, 0, BEANS_CUT) && isWithin(flat, 0, BEANS_CUT)
                && mouldy + slaty + flat <= BEANS_CUT;
    }

    private static boolean setMark(Vessel it, boolean is) {
        if (it == null || it.marked == is) {
            return false;
        }
        it.marked = is;
        return true;
    }

    /** A heap, box, tray or sack. */
    private static final class Vessel {
        private final int kind;
        private final int[] dry;
        private int dryGrams;
        private int water;
        private int taste;
        /** A box: turned today. A tray: covered. The other kinds never are. */
        private boolean marked;
        private int grade;
        private int cuts;

        Vessel(int kind) {
            this.kind = kind;
            dry = new int[PLOTS];
        }

        int weight() {
            return dryGrams + water;
        }

        int wetness() {
            int weight = weight();
            return weight <= 0 ? 0 : (int) (1000L * water / weight);
        }

        void pourIn(int plot, int moreDry, int moreWater) {
            dry[plot] += moreDry;
            dryGrams += moreDry;
            water += moreWater;
        }

        boolean mayGoTo(Vessel target) {
            if (kind == SACK || target.kind < kind || target.kind > kind + 1) {
                return false;
            }
            return target.kind != SACK || (wetness() <= MOST_WETNESS_SACKED && target.cuts == 0);
        }

        void pourOver(Vessel target, int grams, Parting parting) {
            int weight = weight();
            int both = target.weight() + grams;
            if (weight <= 0 || both <= 0) {
                return;
            }
            long tastes = (long) target.weight() * target.taste + (long) grams * taste;
            target.taste = (int) (tastes / both);
            int wet = (int) ((long) grams * water / weight);
            water -= wet;
            target.water += wet;
            int[] shares = parting.divide(grams - wet, dry);
            for (int plot = 0; plot < PLOTS; plot++) {
                pourIn(plot, -shares[plot], 0);
                target.pourIn(plot, shares[plot], 0);
            }
        }

        void passDay(int sun, boolean rain) {
            if (kind == TRAY && !marked) {
                dryOrWet(sun, rain);
            } else if (kind == BOX) {
                ripen(marked ? 12 : 7);
                marked = false;
            } else if (kind == HEAP) {
                ripen(1);
            }
        }

        private void dryOrWet(int sun, boolean rain) {
            if (rain) {
                water += dryGrams / 10;
            } else {
                water = Math.max(0, water - sun * dryGrams / 40);
            }
        }

        private void ripen(int more) {
            if (weight() > 0) {
                taste = Math.min(MOST_TASTE, taste + more);
            }
        }

        boolean mayBeCut() {
            return weight() > 0 && (cuts == 0 || (cuts == 1 && grade == WORST_GRADE));
        }

        void takeCut(int mouldy, int slaty, int flat) {
            cuts++;
            if (mouldy <= 3 && slaty <= 3 && flat <= 3 && taste >= 50 && taste <= 90) {
                grade = 1;
            } else if (mouldy <= 4 && slaty <= 8 && flat <= 6) {
                grade = 2;
            } else {
                grade = WORST_GRADE;
            }
        }

        int dryOfMember(int member) {
            int sum = 0;
            for (int plot = member; plot < PLOTS; plot += MEMBERS) {
                sum += dry[plot];
            }
            return sum;
        }

        int plotsOfMember(int member) {
            int sum = 0;
            for (int plot = member; plot < PLOTS; plot += MEMBERS) {
                sum += dry[plot] > 0 ? 1 : 0;
            }
            return sum;
        }

        private int plotsInAll() {
            int sum = 0;
            for (int plot = 0; plot < PLOTS; plot++) {
                sum += dry[plot] > 0 ? 1 : 0;
            }
            return sum;
        }

        int tell(int what) {
            switch (what) {
                case 0: return kind;
                case 1: return weight();
                case 2: return dryGrams;
                case 3: return water;
                case 4: return wetness();
                case 5: return taste;
                case 6: return marked ? 1 : 0;
                case 7: return grade;
                case 8: return plotsInAll();
                default: return NONE;
            }
        }
    }

    /** Parts whole numbers by measures. Its rows are used again by each call, so that no call makes new ones. */
    private static final class Parting {
        private final int[] shares;
        private final long[] rests;

        Parting() {
            shares = new int[PLOTS];
            rests = new long[PLOTS];
        }

        /** The shares of n, good until the next call; all 0 where all measures are. */
        int[] divide(int n, int[] measures) {
            int size = Math.min(measures.length, PLOTS);
            long sum = 0;
            for (int i = 0; i < size; i++) {
                sum += measures[i];
            }
            Arrays.fill(shares, 0);
            if (sum <= 0) {
                return shares;
            }
            int left = n;
            for (int i = 0; i < size; i++) {
                long times = (long) n * measures[i];
                shares[i] = (int) (times / sum);
                rests[i] = times % sum;
                left -= shares[i];
            }
            for (int given = 0; given < left; given++) {
                giveOne(size);
            }
            return shares;
        }

        private void giveOne(int size) {
            int best = 0;
            for (int i = 1; i < size; i++) {
                if (rests[i] > rests[best]) {
                    best = i;
                }
            }
            shares[best]++;
            rests[best] = -1;
        }
    }

    /** The bytes of a text, told or voted. */
    private static final class Text {
        private final byte[] bytes;
        private int length;

        Text(int room) {
            bytes = new byte[Math.max(0, room)];
        }

        /** How many of a number's four bytes are not 0. */
        static int bytesIn(int number) {
            int sum = 0;
            for (int shift = 24; shift >= 0; shift -= 8) {
                sum += ((number >>> shift) & 255) != 0 ? 1 : 0;
            }
            return sum;
        }

        void append(int number) {
            for (int shift = 24; shift >= 0; shift -= 8) {
                int one = (number >>> shift) & 255;
                if (one != 0 && length < bytes.length) {
                    bytes[length] = (byte) one;
                    length++;
                }
            }
        }

        void cutTo(int n) {
            length = n;
        }

        Text copy() {
            Text other = new Text(length);
            System.arraycopy(bytes, 0, other.bytes, 0, length);
            other.length = length;
            return other;
        }

        static boolean isDigit(int one) {
            return one >= '0' && one <= '9';
        }

        /** The first byte at which no E can go on: either a factor must come next, or something behind one. */
        int firstFault() {
            boolean wantsFactor = true;
            int depth = 0;
            int digits = 0;
            for (int i = 0; i < length; i++) {
                int one = bytes[i];
                if (isDigit(one)) {
                    if (digits == MOST_DIGITS || (digits == 0 && !wantsFactor)) {
                        return i;
                    }
                    digits++;
                    wantsFactor = false;
                    continue;
                }
                digits = 0;
                if (one == ' ') {
                    continue;
                }
                if (wantsFactor ? !mayBegin(one, depth) : !mayFollow(one, depth)) {
                    return i;
                }
                depth += one == '(' ? 1 : one == ')' ? -1 : 0;
                wantsFactor = one == '(' || isSign(one);
            }
            return wantsFactor || depth > 0 ? length : NONE;
        }

        private static boolean mayBegin(int one, int depth) {
            return one == 'g' || one == 'q' || one == 'p' || (one == '(' && depth < MOST_DEPTH);
        }

        private static boolean mayFollow(int one, int depth) {
            return isSign(one) || (one == ')' && depth > 0);
        }

        private static boolean isSign(int one) {
            return one == '+' || one == '-' || one == '*';
        }
    }

    /** Works out texts without a fault. Each open ( has a sum of its terms so far and the term at hand, with its sign. */
    private static final class Reckoner {
        private final long[] sums;
        private final long[] terms;
        private int depth;

        Reckoner() {
            sums = new long[MOST_DEPTH + 1];
            terms = new long[MOST_DEPTH + 1];
        }

        long work(Text text, int grams, int grade, int plots) {
            depth = 0;
            beginSum();
            long number = 0;
            for (int i = 0; i < text.length; i++) {
                int one = text.bytes[i];
                if (Text.isDigit(one)) {
                    number = number * 10 + (one - '0');
                    if (i + 1 == text.length || !Text.isDigit(text.bytes[i + 1])) {
                        terms[depth] *= number;
                        number = 0;
                    }
                    continue;
                }
                switch (one) {
                    case 'g': terms[depth] *= grams; break;
                    case 'q': terms[depth] *= grade; break;
                    case 'p': terms[depth] *= plots; break;
                    case '+': beginTerm(1); break;
                    case '-': beginTerm(-1); break;
                    case '(': open(); break;
                    case ')': close(); break;
                    default: break;
                }
            }
            return Math.max(0L, Math.min(MOST_TOLD, sums[0] + terms[0]));
        }

        private void beginSum() {
            sums[depth] = 0;
            terms[depth] = 1;
        }

        private void beginTerm(long sign) {
            sums[depth] += terms[depth];
            terms[depth] = sign;
        }

        private void open() {
            if (depth < MOST_DEPTH) {
                depth++;
                beginSum();
            }
        }

        private void close() {
            if (depth > 0) {
                depth--;
                terms[depth] *= sums[depth + 1] + terms[depth + 1];
            }
        }
    }

    /** A text in the books, from a day on. */
    private static final class Vote {
        private final int from;
        private final Text text;
        private boolean takenBack;

        Vote(int from, Text text) {
            this.from = from;
            this.text = text;
        }
    }

    private static final class Votes {
        private final Vote[] all;
        private final Reckoner reckoner;
        private int size;

        Votes() {
            all = new Vote[MOST_VOTES];
            reckoner = new Reckoner();
        }

        Vote at(int number) {
            return number >= 0 && number < size ? all[number] : null;
        }

        /** The text is copied, for the one that is told is used again. NONE: there are as many as may be. */
        int add(int from, Text told) {
            if (size >= all.length) {
                return NONE;
            }
            all[size] = new Vote(from, told.copy());
            return size++;
        }

        int inForce(int day) {
            for (int i = size - 1; i >= 0; i--) {
                if (!all[i].takenBack && all[i].from <= day) {
                    return i;
                }
            }
            return NONE;
        }

        /** What a vote's text (or g) tells of a member. The grade is handed in, for a premium keeps its own. */
        int tellOf(int number, Vessel sack, int grade, int member) {
            Vote it = at(number);
            int grams = sack.dryOfMember(member);
            return it == null ? grams : (int) reckoner.work(it.text, grams, grade, sack.plotsOfMember(member));
        }
    }

    /** What was paid for a sack. Its plots stay as they are once it is cut, its grade may not: that is kept here. */
    private static final class Premium {
        private final Vessel sack;
        private final int grade;
        private final int coins;
        private final int day;
        private final int[] shares;
        private int vote;

        Premium(Vessel sack, int coins, int day) {
            this.sack = sack;
            this.grade = sack.grade;
            this.coins = coins;
            this.day = day;
            shares = new int[MEMBERS];
            vote = NONE;
        }
    }

    private static final class Premiums {
        private final Premium[] all;
        private final int[] measures;
        private final Parting parting;
        private final Ledger ledger;
        private int size;
        private long coinsOfAll;

        Premiums() {
            all = new Premium[MOST_PREMIUMS];
            measures = new int[MEMBERS];
            parting = new Parting();
            ledger = new Ledger();
        }

        /** NONE: there are as many as may be. */
        int add(Vessel sack, int coins, Votes votes, int today) {
            if (size >= all.length) {
                return NONE;
            }
            all[size] = new Premium(sack, coins, today);
            coinsOfAll += coins;
            settle(size, votes, today, true);
            return size++;
        }

        /** Parts anew what hung on a vote that was taken back: how many entries that made. */
        int partAnew(int vote, Votes votes, int today) {
            int before = ledger.size;
            for (int i = 0; i < size; i++) {
                if (all[i].vote == vote) {
                    settle(i, votes, today, false);
                }
            }
            return ledger.size - before;
        }

        int partedBy(int vote) {
            int sum = 0;
            for (int i = 0; i < size; i++) {
                sum += all[i].vote == vote ? 1 : 0;
            }
            return sum;
        }

        /** Parts a premium by the text in force for its day; what is unchanged is written only the first time. */
        private void settle(int number, Votes votes, int today, boolean isFirst) {
            Premium it = all[number];
            it.vote = votes.inForce(it.day);
            measure(it, votes);
            int[] shares = parting.divide(it.coins, measures);
            for (int member = 0; member < MEMBERS; member++) {
                int more = shares[member] - it.shares[member];
                if (more != 0 || (isFirst && it.sack.dryOfMember(member) > 0)) {
                    ledger.write(today, number, member, more);
                    it.shares[member] = shares[member];
                }
            }
        }

        private void measure(Premium it, Votes votes) {
            boolean isAllZero = true;
            for (int member = 0; member < MEMBERS; member++) {
                // A text may tell something of a member without beans in the sack: that one has no part in it.
                measures[member] = it.sack.dryOfMember(member) > 0
                        ? votes.tellOf(it.vote, it.sack, it.grade, member) : 0;
                if (measures[member] != 0) {
                    isAllZero = false;
                }
            }
            if (isAllZero) {
                for (int member = 0; member < MEMBERS; member++) {
                    measures[member] = it.sack.dryOfMember(member);
                }
            }
        }
    }

    /** All entries, four cells each (day, premium, member, coins), in one row that grows by doubling. */
    private static final class Ledger {
        private final int[] coinsOf;
        private int[] cells;
        private int size;

        Ledger() {
            coinsOf = new int[MEMBERS];
            cells = new int[FIRST_ENTRIES * ENTRY_CELLS];
        }

        void write(int day, int premium, int member, int coins) {
            int at = size * ENTRY_CELLS;
            if (at + ENTRY_CELLS > cells.length) {
                cells = Arrays.copyOf(cells, cells.length * 2);
            }
            cells[at] = day;
            cells[at + 1] = premium;
            cells[at + 2] = member;
            cells[at + 3] = coins;
            coinsOf[member] += coins;
            size++;
        }

        int cell(int i, int what) {
            boolean is = i >= 0 && i < size && what >= 0 && what < ENTRY_CELLS;
            return is ? cells[i * ENTRY_CELLS + what] : 0;
        }
    }

    /** The jobs and the places of the days they want. */
    private static final class Plan {
        private final int[] firstOf;
        private final int[] lastOf;
        private final int[] dayOf;
        private final int[] placesOf;
        private final int[] begun;
        private int jobs;

        Plan() {
            firstOf = new int[MOST_JOBS];
            lastOf = new int[MOST_JOBS];
            dayOf = new int[MOST_JOBS];
            placesOf = new int[PLAN_DAYS];
            begun = new int[PLAN_DAYS];
        }

        /** NONE: there are as many as may be. */
        int add(int first, int last) {
            if (jobs >= MOST_JOBS) {
                return NONE;
            }
            firstOf[jobs] = first;
            lastOf[jobs] = last;
            return jobs++;
        }

        /** Gives each job its day; false if some job has none then. */
        boolean giveDays() {
            Arrays.fill(dayOf, NONE);
            int given = 0;
            for (int day = 0; day < PLAN_DAYS; day++) {
                for (int place = 0; place < placesOf[day]; place++) {
                    int next = mostPressing(day);
                    if (next == NONE) {
                        break;
                    }
                    dayOf[next] = day;
                    given++;
                }
            }
            return given == jobs;
        }

        private int mostPressing(int day) {
            int best = NONE;
            for (int i = 0; i < jobs; i++) {
                boolean may = dayOf[i] == NONE && firstOf[i] <= day && day <= lastOf[i];
                if (may && (best == NONE || lastOf[i] < lastOf[best])) {
                    best = i;
                }
            }
            return best;
        }

        /** The row's last day or its first. There is one just when some job gets no day: no plan is needed. */
        int tightRow(boolean isLastWanted) {
            Arrays.fill(begun, 0);
            for (int last = 0; last < PLAN_DAYS; last++) {
                addJobsUntil(last);
                int first = tightFirst(last);
                if (first != NONE) {
                    return isLastWanted ? last : first;
                }
            }
            return NONE;
        }

        /** Keeps in begun, by first days, the jobs that must be done by a day. */
        private void addJobsUntil(int last) {
            for (int i = 0; i < jobs; i++) {
                if (lastOf[i] == last) {
                    begun[firstOf[i]]++;
                }
            }
        }

        private int tightFirst(int last) {
            int lacking = 0;
            for (int first = last; first >= 0; first--) {
                lacking += begun[first] - placesOf[first];
                if (lacking > 0) {
                    return first;
                }
            }
            return NONE;
        }
    }
}
