import java.math.BigInteger;

/** The boundary cases of texts and of what they tell: promises 9 to 12, 19 and 20, a test for each sentence. */
public final class TextBoundsTest extends Yards {
    public static void main(String[] args) {
        feedNothing();
        feedOrder();
        feedLeavesZeroesOut();
        feedHighBytes();
        feedTwoHundred();
        feedBeyond();
        voteDays();
        voteEmptyTexts();
        voteFaults();
        voteEmptiesTheText();
        voteFifty();
        voteOfTwoHundredBytes();
        faultOfAnEmptyText();
        faultOfEachByteAtFirst();
        faultOfEachByteBehindAFactor();
        faultOfEachByteWithinBrackets();
        faultOfEachByteBehindASign();
        faultOfEachByteBehindDigits();
        faultOfAFifthDigit();
        faultOfANinthBracket();
        faultOfBlanks();
        faultAtTheEnd();
        faultIsTheFirst();
        endBounds();
        endOfAnEmptyText();
        endOfAFullText();
        worthBounds();
        worthOfEmptySacks();
        worthOfOthers();
        worthOfSigns();
        worthBelowZero();
        worthAboveTheMost();
        worthWithin();
        worthWraps();
        worthOfTheLongestTexts();
        forceBounds();
        forceFromADay();
        forceToldLast();
        forceTakenBack();
        Due.finish();
    }

    private static void feedNothing() {
        sentence("Promise 9: bytes of 0 are left out, all of them");
        Yard y = new Yard();
        y.changesNothing(feed(0, 0, 0, 0, 0), 0);
        y.tell("g*q");
        y.changesNothing(feed(0, 0, 0, 0, 0), 3);
        y.make(end(0));
        y.changesNothing(feed(0, 0, 0, 0, 0), 0);
    }

    private static void feedOrder() {
        sentence("Promise 9: twenty bytes more, of each number the highest first");
        // 1234+567*8-(90-1)*2- , then 3
        Yard y = sacked(0, 1);
        y.due(feed(0x31323334, 0x2b353637, 0x2a382d28, 0x39302d31, 0x292a322d), 20);
        y.due(fault(), 20);
        y.due(feed(0x33000000, 0, 0, 0, 0), 21);
        y.due(fault(), NONE);
        y.make(vote(0));
        y.due(worth(0, 3, 0), 1234 + 567 * 8 - (90 - 1) * 2 - 3);
    }

    private static void feedLeavesZeroesOut() {
        sentence("Promise 9: bytes of 0 are left out, between others");
        Yard y = sacked(0, 1);
        y.due(feed(0x00310032, 0x33000000, 0, 0x00000034, 0x2b003500), 6);
        y.due(fault(), NONE);
        y.make(vote(0));
        y.due(worth(0, 3, 0), 1239);
        for (int shift = 0; shift < 32; shift += 8) {
            Yard one = new Yard();
            one.would(feed('g' << shift, 0, 0, 0, 0), 1);
            one.would(feed(0, 'g' << shift, 0, 0, 0), 1);
            one.would(feed(0, 0, 'g' << shift, 0, 0), 1);
            one.would(feed(0, 0, 0, 'g' << shift, 0), 1);
            one.would(feed(0, 0, 0, 0, 'g' << shift), 1);
            one.due(feed(0, 0, 0, 0, 'g' << shift), 1);
            one.due(fault(), NONE);
        }
    }

    private static void feedHighBytes() {
        sentence("Promise 9: bytes up to 255, numbers below 0");
        Yard y = new Yard();
        y.would(feed(-1, -1, -1, -1, -1), 20);
        y.would(feed(LEAST, 0, 0, 0, 0), 1);
        y.would(feed(LEAST, LEAST, LEAST, LEAST, LEAST), 5);
        y.would(feed(MOST, MOST, MOST, MOST, MOST), 20);
        y.would(feed(0, 0, 0, 0, 0xff80), 2);
        y.due(feed(0x67800000, 0, 0, 0, 0), 2);
        y.due(fault(), 1);
        y.due(end(1), 1);
        y.due(fault(), NONE);
    }

    private static void feedTwoHundred() {
        sentence("Promise 9: how many there are; NONE: more than 200");
        Yard y = new Yard();
        int full = 0x67676767;
        for (int i = 1; i <= 9; i++) {
            y.due(feed(full, full, full, full, full), 20 * i);
        }
        y.would(feed(full, full, full, full, full), 200);
        y.due(feed(0, 0, 0, 0, 0x67), 181);
        y.refuses(feed(full, full, full, full, full));
        y.would(feed(0x67676700, full, full, full, full), 200);
        y.would(feed(full, full, full, full, 0x676767), 200);
        y.due(feed(full, full, full, full, 0x670067), 199);
        y.refusesAll(feed(0x67670000, 0, 0, 0, 0), feed(0x67, 0, 0, 0, 0x67), feed(full, full, full, full, full));
        y.due(feed(0, 0, 0x6700, 0, 0), 200);
        y.changesNothing(feed(0, 0, 0, 0, 0), 200);
        for (int shift = 0; shift < 32; shift += 8) {
            y.refusesAll(feed(1 << shift, 0, 0, 0, 0), feed(0, 1 << shift, 0, 0, 0), feed(0, 0, 1 << shift, 0, 0),
                    feed(0, 0, 0, 1 << shift, 0), feed(0, 0, 0, 0, 1 << shift), feed(0, 0, 0, 0, 0xff << shift));
        }
        y.due(count(8), 200);
    }

    private static void feedBeyond() {
        sentence("Promise 9: NONE: more than 200, of which nothing is taken");
        Yard y = sacked(0, 7).tell(many("g+", 99) + "g");
        y.due(count(8), 199);
        y.refuses(feed(0x2b670000, 0, 0, 0, 0));
        y.refuses(feed(0x20202020, 0, 0, 0, 0));
        y.due(fault(), NONE);
        y.due(feed(0x20000000, 0, 0, 0, 0), 200);
        y.refuses(feed(0x20000000, 0, 0, 0, 0));
        y.due(vote(0), 0);
        y.due(worth(0, 3, 0), 700);
        y.due(feed(-1, -1, -1, -1, -1), 20);
    }

    private static void voteDays() {
        sentence("Promise 10: from a DAY on (0 .. 10,000)");
        Yard y = sacked(0, 7).tell("g+1");
        y.would(vote(0), 0);
        y.would(vote(10_000), 0);
        for (int from : join(FAR, -1, 10_001, 10_002)) {
            y.refuses(vote(from));
        }
        y.due(vote(10_000), 0);
        y.due(voted(0, 0), 10_000);
        y.tell("g");
        y.refusesAll(vote(-1), vote(10_001));
        y.due(vote(0), 1);
        y.due(voted(1, 0), 0);
    }

    private static void voteEmptyTexts() {
        sentence("Promise 10: NONE: it has a fault, of an empty TEXT");
        Yard y = sacked(0, 7);
        y.refuses(vote(0));
        y.make(feed(0, 0, 0, 0, 0));
        y.refuses(vote(0));
        y.tell(" ");
        y.refuses(vote(0));
        y.tell("g").make(end(0));
        y.refuses(vote(0));
    }

    private static void voteFaults() {
        sentence("Promise 10: NONE: it has a fault (the TEXT stays)");
        String[] faults = {"g+", "(g", "g)", "12345", "(((((((((g)))))))))", "1 2", "x", "g\u0080", "+g", "gg", "()"};
        for (String text : faults) {
            Yard y = new Yard().tell(text);
            y.refuses(vote(0));
            y.due(count(8), text.length());
        }
    }

    private static void voteEmptiesTheText() {
        sentence("Promise 10: its number; the TEXT is empty then");
        Yard y = sacked(0, 7).tell("g*2");
        y.due(vote(0), 0);
        y.due(count(8), 0);
        y.due(fault(), 0);
        y.refuses(vote(0));
        y.refuses(end(1));
        y.tell("g*3");
        y.due(worth(0, 3, 0), 14);
        y.due(vote(0), 1);
        y.due(worth(0, 3, 0), 21);
        y.tell("g").make(end(0));
        y.make(unvote(1));
        y.due(worth(0, 3, 0), 14);
    }

    private static void voteFifty() {
        sentence("Promise 10: NONE: there are 50 (the TEXT stays)");
        Yard y = sacked(0, 7);
        for (int i = 0; i < 50; i++) {
            y.tell("g+" + i);
            y.due(vote(i), i);
        }
        y.tell("p");
        y.refusesAll(vote(0), vote(10_000), vote(-1));
        y.due(count(8), 1);
        y.due(count(2), 50);
        y.due(force(49), 49);
        y.due(force(10_000), 49);
        y.due(worth(49, 3, 0), 56);
        y.due(voted(49, 0), 49);
        y.due(voted(50, 0), NONE);
        y.refuses(unvote(50));
        y.due(unvote(49), 0);
        y.due(unvote(0), 0);
        y.refuses(vote(0));
        y.due(count(2), 50);
    }

    private static void voteOfTwoHundredBytes() {
        sentence("Promise 10: the TEXT is a VOTE, of 200 bytes");
        Yard y = sacked(0, 7).tell(many(" ", 199) + "g");
        y.due(fault(), NONE);
        y.due(vote(0), 0);
        y.due(worth(0, 3, 0), 7);
        y.tell("5" + many(" ", 199));
        y.due(vote(0), 1);
        y.due(worth(0, 3, 0), 5);
        y.tell(many(" ", 200));
        y.due(fault(), 200);
        y.refuses(vote(0));
    }

    private static void dueFault(String text, int want) {
        Yard y = new Yard().tell(text);
        Due.due("fault() of '" + text + "'", y.make(fault()), want);
        Due.due("vote(0) of '" + text + "'", y.make(vote(0)), want == NONE ? 0 : NONE);
        Due.due("count(8) behind '" + text + "'", y.make(count(8)), want == NONE ? 0 : text.length());
    }

    private static void faultOfAnEmptyText() {
        sentence("Promise 11: its length, if it ends too early, of an empty TEXT");
        dueFault("", 0);
        Yard y = new Yard().tell("g").and(end(0));
        y.due(fault(), 0);
        y.changesNothing(fault(), 0);
    }

    private static boolean isFactor(char one) {
        return "gqp0123456789".indexOf(one) >= 0;
    }

    private static boolean isSign(char one) {
        return "+-*".indexOf(one) >= 0;
    }

    private static void faultOfEachByteAtFirst() {
        sentence("Promise 11: the first byte at which no E can go on, each byte at first");
        for (char one = 1; one < 256; one++) {
            dueFault("" + one, isFactor(one) ? NONE : one == '(' || one == ' ' ? 1 : 0);
        }
    }

    private static void faultOfEachByteBehindAFactor() {
        sentence("Promise 11: the first byte at which no E can go on, each byte behind a FACTOR");
        String[] factors = {"g", "q", "p", "(g)", "(1)", "g ", "12 ", "g+q", "g*(p)"};
        for (String factor : factors) {
            int length = factor.length();
            for (char one = 1; one < 256; one++) {
                dueFault(factor + one, isSign(one) ? length + 1 : one == ' ' ? NONE : length);
            }
        }
    }

    private static void faultOfEachByteWithinBrackets() {
        sentence("Promise 11: the first byte at which no E can go on, each byte within ( )");
        for (char one = 1; one < 256; one++) {
            dueFault("(g" + one, one == ')' ? NONE : isSign(one) || one == ' ' ? 3 : 2);
            dueFault("(" + one, isFactor(one) || one == '(' || one == ' ' ? 2 : 1);
        }
    }

    private static void faultOfEachByteBehindASign() {
        sentence("Promise 11: the first byte at which no E can go on, each byte behind a sign");
        String[] signs = {"g+", "g-", "g*", "1+", "(p)*"};
        for (String text : signs) {
            int length = text.length();
            for (char one = 1; one < 256; one++) {
                dueFault(text + one, isFactor(one) ? NONE : one == '(' || one == ' ' ? length + 1 : length);
            }
        }
    }

    private static void faultOfEachByteBehindDigits() {
        sentence("Promise 11: the first byte at which no E can go on, each byte behind digits");
        for (int digits = 1; digits <= 4; digits++) {
            String number = "9999".substring(0, digits);
            for (char one = 1; one < 256; one++) {
                boolean isDigit = one >= '0' && one <= '9';
                dueFault(number + one, isSign(one) ? digits + 1 : one == ' ' || (isDigit && digits < 4) ? NONE : digits);
            }
        }
    }

    private static void faultOfAFifthDigit() {
        sentence("Promise 11 and Terms: a number (1 to 4 digits); a number's fifth digit");
        dueFault("0", NONE);
        dueFault("0000", NONE);
        dueFault("00000", 4);
        dueFault("9999", NONE);
        dueFault("10000", 4);
        dueFault("123456", 4);
        dueFault("g*12345", 6);
        dueFault("(12345)", 5);
        dueFault("1234+1234", NONE);
        dueFault("1234+12345", 9);
        dueFault("1234*1234-1234", NONE);
        dueFault("(1234)+12", NONE);
    }

    private static void faultOfANinthBracket() {
        sentence("Promise 11 and Terms: at most eight ( within one another; a ninth (");
        for (int deep = 1; deep <= 8; deep++) {
            dueFault(many("(", deep) + "g" + many(")", deep), NONE);
            dueFault(many("(", deep), deep);
            dueFault(many("(", deep) + "g" + many(")", deep - 1), 2 * deep);
            dueFault(many("(", deep) + "g" + many(")", deep + 1), 2 * deep + 1);
        }
        dueFault(many("(", 9) + "g" + many(")", 9), 8);
        dueFault(many("(", 10), 8);
        dueFault(many("( ", 9), 16);
        dueFault("1+" + many("(", 9), 10);
        dueFault(many("(", 8) + "g)+(g)+(g" + many(")", 8), NONE);
        dueFault(many("(", 8) + "g)+((", 12);
        dueFault(many("(", 8) + "g))+(((", 14);
        dueFault(many("(", 8) + "g+(", 10);
        dueFault(many("(g)+", 49) + "(g)", NONE);
        dueFault(many(many("(", 8) + "g" + many(")", 8) + "+", 11) + "g", NONE);
    }

    private static void faultOfBlanks() {
        sentence("Terms: blanks (32) stand where they like, not within numbers");
        dueFault(" g", NONE);
        dueFault("g ", NONE);
        dueFault("  ( g  +  12 ) * ( q ) - p  ", NONE);
        dueFault("1 2", 2);
        dueFault("12 34", 3);
        dueFault("1234 5", 5);
        dueFault("1    2", 5);
        dueFault("g q", 2);
        dueFault("( )", 2);
        dueFault("g\t", 1);
        dueFault("\ng", 0);
        dueFault("g\u00a0", 1);
    }

    private static void faultAtTheEnd() {
        sentence("Promise 11: its length, if it ends too early");
        dueFault(" ", 1);
        dueFault("g+", 2);
        dueFault("g+ ", 3);
        dueFault("(", 1);
        dueFault("(g", 2);
        dueFault("((g)", 4);
        dueFault("g*(", 3);
        dueFault(many("g+", 100), 200);
        dueFault(many("g+", 99) + "g ", NONE);
        dueFault(many(" ", 200), 200);
        dueFault(many(" ", 199) + "(", 200);
        dueFault(many(" ", 199) + ")", 199);
        dueFault("(" + many("g+", 99) + "g", 200);
    }

    private static void faultIsTheFirst() {
        sentence("Promise 11: the first byte");
        dueFault("x+y", 0);
        dueFault("g+x)", 2);
        dueFault("g)12345", 1);
        dueFault("12345(((((((((", 4);
        dueFault("gg+", 1);
        dueFault("--", 0);
        dueFault("g-*p-", 2);
    }

    private static void endBounds() {
        sentence("Promise 12: the TEXT has its first n bytes alone; false: n");
        Yard y = sacked(0, 7).tell("g*12");
        for (int n : join(FAR, -1, 5, 200, 201)) {
            y.refuses(end(n));
        }
        y.changesNothing(end(4), 1);
        for (int n = 0; n <= 4; n++) {
            Yard cut = y.again();
            cut.due(end(n), 1);
            cut.due(count(8), n);
            cut.due(fault(), n == 0 ? 0 : n == 2 ? 2 : NONE);
            cut.refusesAll(end(n + 1), end(-1));
        }
        y.due(end(3), 1);
        y.tell("4");
        y.due(vote(0), 0);
        y.due(worth(0, 3, 0), 98);
    }

    private static void endOfAnEmptyText() {
        sentence("Promise 12: false: n, of an empty TEXT");
        Yard y = new Yard();
        y.changesNothing(end(0), 1);
        y.refusesAll(end(1), end(-1), end(200), end(LEAST), end(MOST));
    }

    private static void endOfAFullText() {
        sentence("Promise 12: false: n, of 200 bytes");
        Yard y = new Yard().tell(many("g*", 100));
        y.changesNothing(end(200), 1);
        y.refusesAll(end(201), end(-1), end(MOST));
        y.due(end(199), 1);
        y.due(fault(), NONE);
        y.refuses(end(200));
        y.due(feed(0x20, 0, 0, 0, 0), 200);
        y.refuses(feed(0x20, 0, 0, 0, 0));
    }

    private static void worthBounds() {
        sentence("Promise 19: NONE: no such DAY, SACK, MEMBER");
        Yard y = voting(sacked(0, 7, 19, 5), "g+1", 0);
        y.due(worth(0, 3, 0), 8);
        y.due(worth(10_000, 3, 0), 8);
        y.due(worth(0, 3, 19), 6);
        y.due(worth(0, 3, 1), 1);
        for (int other : join(FAR, -1, 10_001)) {
            y.due(worth(other, 3, 0), NONE);
        }
        for (int other : join(FAR, -1, 0, 1, 2, 4, 99, 100)) {
            y.due(worth(0, other, 0), NONE);
        }
        for (int other : join(FAR, -1, 20, 21)) {
            y.due(worth(0, 3, other), NONE);
        }
        y.changesNothing(worth(0, 3, 0), 8);
        y.changesNothing(worth(10_001, 3, 0), NONE);
        y.changesNothing(worth(0, 4, 0), NONE);
    }

    private static void worthOfEmptySacks() {
        sentence("Promise 19: what the TEXT tells of a MEMBER in a SACK, of an empty one");
        Yard y = yard();
        for (int member = 0; member < 20; member++) {
            y.due(worth(0, 3, member), 0);
        }
        voting(y, "g+q*10+p*100+1000", 0);
        for (int member = 0; member < 20; member++) {
            y.due(worth(0, 3, member), 1000);
        }
        Yard uncut = voting(mixed(3, 0, 7), "g+q*10+p*100", 0);
        uncut.due(worth(0, 3, 0), 107);
        uncut.make(cut(3, 50, 0, 0));
        uncut.due(worth(0, 3, 0), 137);
    }

    private static void worthOfOthers() {
        sentence("Terms: g: DRY grams of the MEMBER in the SACK, q: its GRADE, p: how many of the MEMBER's PLOTS have DRY there");
        Yard y = voting(sacked(0, 1, 20, 2, 40, 4, 19, 8, 59, 16, 7, 32), "g*100+q*10+p", 0);
        for (int member = 0; member < 20; member++) {
            long want = member == 0 ? 723 : member == 19 ? 2422 : member == 7 ? 3221 : 20;
            y.due(worth(0, 3, member), want);
        }
        Yard most = voting(sacked(5, 1_000_000), "g", 0);
        most.due(worth(0, 3, 5), 1_000_000);
    }

    /** What a text tells of member 5: 60 grams of three plots in a sack of grade 2. */
    private static void dueWorth(String text, long want) {
        Yard y = sacked(5, 10, 25, 20, 45, 30, 6, 7).tell(text);
        Due.due("vote of " + text, y.make(vote(0)), 0);
        Due.due("worth by " + text, y.make(worth(0, 3, 5)), want);
    }

    private static void worthOfSigns() {
        sentence("Terms: TERMS with + or - between, from the left; TERM: FACTORS with * between");
        dueWorth("10-3-2", 5);
        dueWorth("10-(3-2)", 9);
        dueWorth("10-3+2", 9);
        dueWorth("2+3*4", 14);
        dueWorth("(2+3)*4", 20);
        dueWorth("20-2*3*3-1", 1);
        dueWorth("g-q*p*q-p", 45);
        dueWorth("0*g+7", 7);
        dueWorth("0001*0010", 10);
        dueWorth("((((((((9-1)-1)-1)-1)-1)-1)-1)-1)", 1);
        dueWorth("9-(9-(9-(9-(9-(9-(9-(9-(8))))))))", 8);
    }

    private static void worthBelowZero() {
        sentence("Terms: below 0 it is 0");
        dueWorth("1", 1);
        dueWorth("0", 0);
        dueWorth("1-1", 0);
        dueWorth("0-1", 0);
        dueWorth("0-9999*9999*9999", 0);
        dueWorth("0-1024*1024*2048", 0);
        dueWorth("0-1024*1024*4096-1", 0);
        dueWorth("g-61", 0);
    }

    private static void worthAboveTheMost() {
        sentence("Terms: above 1,000,000,000 that");
        dueWorth("1000*1000*1000-1", 999_999_999);
        dueWorth("1000*1000*1000", 1_000_000_000);
        dueWorth("1000*1000*1000+1", 1_000_000_000);
        dueWorth("1024*1024*2048-1", 1_000_000_000);
        dueWorth("1024*1024*2048", 1_000_000_000);
        dueWorth("1024*1024*4096", 1_000_000_000);
        dueWorth("1024*1024*4096+5", 1_000_000_000);
        dueWorth("9999*9999*9999*9999", 1_000_000_000);
    }

    private static void worthWithin() {
        sentence("Terms: worked in 64 bits: what is below 0 or above 1,000,000,000 on the way stays so");
        dueWorth("1-2+3", 2);
        dueWorth("(1-2)*(1-3)", 2);
        dueWorth("5-(1-3)", 7);
        dueWorth("0-5+g", 55);
        dueWorth("1000*1000*1000+5-1000*1000*1000", 5);
        dueWorth("(1000*1000*1000*9)-(1000*1000*1000*9-4)", 4);
        dueWorth("1000*1000*5000-1000*1000*4999", 1_000_000);
    }

    private static final String TWO_TO_60 = "1024*1024*1024*1024*1024*1024";

    private static void worthWraps() {
        sentence("Terms: worked in 64 bits, which wrap around");
        dueWorth(TWO_TO_60 + "*8", 0);
        dueWorth(TWO_TO_60 + "*8-1", 1_000_000_000);
        dueWorth(TWO_TO_60 + "*4", 1_000_000_000);
        dueWorth(TWO_TO_60 + "*16", 0);
        dueWorth(TWO_TO_60 + "*16+9", 9);
        dueWorth(TWO_TO_60 + "*16-9", 0);
        dueWorth(TWO_TO_60 + "*16+1000*1000*1000", 1_000_000_000);
        dueWorth("0-" + TWO_TO_60 + "*8-1", 1_000_000_000);
        dueWorth("0-" + TWO_TO_60 + "*8", 0);
        dueWorth(TWO_TO_60 + "*7+" + TWO_TO_60 + "*9+3", 3);
        dueWorth("(" + TWO_TO_60 + "*8)*2+g", 60);
        dueWorth("(" + TWO_TO_60 + "+1)*16", 16);
        dueWorth("(" + TWO_TO_60 + "*8+1)*(" + TWO_TO_60 + "*8+1)", 1);
        dueWorth("(" + TWO_TO_60 + "*8-1)*2", 0);
        dueWorth("(" + TWO_TO_60 + "*8-1)*(" + TWO_TO_60 + "*8-1)", 1);
        dueWorth("5-(" + TWO_TO_60 + "*16-2)", 7);
        dueWorth(TWO_TO_60 + "*16*g+q", 2);
    }

    /** What a number is in 64 bits, and then between 0 and 1,000,000,000. */
    private static long wrapped(BigInteger number) {
        return Math.max(0, Math.min(1_000_000_000, number.longValue()));
    }

    private static void worthOfTheLongestTexts() {
        sentence("Terms: worked in 64 bits, of 200 bytes");
        for (int times = 2; times <= 40; times++) {
            BigInteger power = BigInteger.valueOf(9999).pow(times);
            dueWorth(many("9999*", times - 1) + "9999", wrapped(power));
            power = BigInteger.valueOf(60).pow(times);
            dueWorth(many("g*", times - 1) + "g", wrapped(power));
            power = BigInteger.valueOf(3).pow(times);
            dueWorth(many("p*", times - 1) + "p", wrapped(power));
            power = BigInteger.valueOf(7).pow(times).negate();
            dueWorth("0-" + many("7*", times - 1) + "7", wrapped(power));
        }
        dueWorth(many("g+", 99) + "g ", 6000);
        dueWorth("0" + many("-g", 99) + " ", 0);
        dueWorth(many("g*", 99) + "g ", wrapped(BigInteger.valueOf(60).pow(100)));
        dueWorth(many(" ", 183) + many("(", 8) + "p" + many(")", 8), 3);
    }

    private static void forceBounds() {
        sentence("Promise 20: NONE: the TEXT g, or no such DAY");
        Yard none = new Yard();
        none.due(force(0), NONE);
        none.due(force(10_000), NONE);
        Yard y = voting(new Yard(), "1", 0);
        y.due(force(0), 0);
        y.due(force(10_000), 0);
        for (int day : join(FAR, -1, 10_001, 10_002)) {
            y.due(force(day), NONE);
        }
        y.changesNothing(force(0), 0);
        y.changesNothing(force(10_001), NONE);
    }

    private static void forceFromADay() {
        sentence("Terms: IN FORCE on a DAY: of VOTES from that DAY or ahead");
        int[] from = {0, 1, 9999, 10_000};
        for (int first : from) {
            Yard y = voting(sacked(0, 7), "g+1", first);
            for (int day : from) {
                y.due(force(day), day >= first ? 0 : NONE);
                y.due(worth(day, 3, 0), day >= first ? 8 : 7);
            }
        }
        Yard today = voting(sacked(0, 7), "p", 1).and(premium(3, 5), day(0, false), premium(3, 5));
        today.due(voted(0, 2), 1);
    }

    private static void forceToldLast() {
        sentence("Terms: IN FORCE: the one that was told last");
        Yard y = voting(voting(voting(new Yard(), "1", 5), "2", 3), "3", 8);
        int[] days = {2, 3, 4, 5, 7, 8, 10_000};
        int[] wants = {NONE, 1, 1, 1, 1, 2, 2};
        for (int i = 0; i < days.length; i++) {
            y.due(force(days[i]), wants[i]);
        }
        voting(y, "4", 0);
        for (int day : days) {
            y.due(force(day), 3);
        }
    }

    private static void forceTakenBack() {
        sentence("Terms: IN FORCE: of VOTES not taken back; without one the TEXT g");
        Yard y = voting(voting(sacked(0, 7), "1", 0), "2", 0);
        y.due(force(0), 1);
        y.make(unvote(1));
        y.due(force(0), 0);
        y.due(worth(0, 3, 0), 1);
        y.make(unvote(0));
        y.due(force(0), NONE);
        y.due(force(10_000), NONE);
        y.due(worth(0, 3, 0), 7);
        voting(y, "3", 0);
        y.due(force(0), 2);
    }
}
