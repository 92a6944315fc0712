/** Each promise by hand: ordinary inputs, the edges that the document names, wrong inputs. */
public final class PromiseTest {
    private static final int NONE = CocoaYard.NONE;
    private static final int LEAST = Integer.MIN_VALUE;
    private static final int MOST = Integer.MAX_VALUE;

    public static void main(String[] args) {
        promise1();
        promise2();
        promise3();
        promise4Parts();
        promise4Kinds();
        promise4Limits();
        promise4Sacks();
        promise4Taste();
        promise5();
        promise6();
        promise7Boxes();
        promise7Trays();
        promise8();
        promise9();
        promise10();
        promise11();
        promise12();
        promise13();
        promise13Order();
        promise13Grade();
        promise14();
        promise14Zero();
        promise14Rests();
        promise14Most();
        promise15And16();
        promise17And18();
        promise19();
        promise20And21();
        promise22To24();
        promise25();
        promise26();
        promise27();
        Due.finish();
    }

    private static void due(String call, long got, long want) {
        Due.due(call, got, want);
    }

    private static void due(String call, boolean got, boolean want) {
        Due.due(call, got, want);
    }

    /** Vessels 0 to 3, one of each kind. */
    private static CocoaYard yard() {
        CocoaYard y = new CocoaYard();
        for (int kind = 0; kind < 4; kind++) {
            y.vessel(kind);
        }
        return y;
    }

    private static void through(CocoaYard y, int grams) {
        y.move(0, 1, grams);
        y.move(1, 2, grams);
        y.move(2, 3, grams);
    }

    /** A yard whose sack 3 has dry grams of plots (plot, grams, plot, grams, ..) and is of grade 2. */
    private static CocoaYard sacked(int... plotsAndGrams) {
        CocoaYard y = yard();
        int all = 0;
        for (int i = 0; i < plotsAndGrams.length; i += 2) {
            y.buy(0, plotsAndGrams[i], plotsAndGrams[i + 1], 0);
            all += plotsAndGrams[i + 1];
        }
        through(y, all);
        due("cut", y.cut(3, 4, 8, 6), 2);
        return y;
    }

    /** Feeds a text, twenty bytes a call; answers what the last call did. */
    private static int feed(CocoaYard y, String text) {
        long answer = NONE;
        for (Call call : Calls.feeds(text)) {
            answer = call.on(y);
        }
        return (int) answer;
    }

    private static int voteFor(CocoaYard y, String text, int from) {
        feed(y, text);
        return y.vote(from);
    }

    private static void dueEntry(CocoaYard y, int i, int day, int premium, int member, int coins) {
        due("entry(" + i + ", 0)", y.entry(i, 0), day);
        due("entry(" + i + ", 1)", y.entry(i, 1), premium);
        due("entry(" + i + ", 2)", y.entry(i, 2), member);
        due("entry(" + i + ", 3)", y.entry(i, 3), coins);
    }

    private static void promise1() {
        CocoaYard y = new CocoaYard();
        for (int what = 0; what < 10; what++) {
            due("new: count(" + what + ")", y.count(what), 0);
        }
        due("NONE", CocoaYard.NONE, -1);
        due("new: told", y.told(0, 0), NONE);
        due("new: force", y.force(0), NONE);
        due("new: fault", y.fault(), 0);
        due("new: voted", y.voted(0, 0), NONE);
        due("new: planned", y.planned(0), NONE);
        due("new: row", y.row(true), NONE);
        due("new: coins", y.coins(0), 0);
        due("new: entry", y.entry(0, 3), 0);
        y.job(0, 59);
        due("new: no places", y.planned(0), NONE);
        CocoaYard other = new CocoaYard();
        due("objects share nothing", other.count(7), 0);
    }

    private static void promise2() {
        CocoaYard y = new CocoaYard();
        due("vessel(-1)", y.vessel(-1), NONE);
        due("vessel(4)", y.vessel(4), NONE);
        due("vessel(least)", y.vessel(LEAST), NONE);
        due("vessel(most)", y.vessel(MOST), NONE);
        for (int i = 0; i < 100; i++) {
            due("vessel", y.vessel(i % 4), i);
            due("kind", y.told(i, 0), i % 4);
            due("empty", y.told(i, 1), 0);
        }
        due("vessel 100", y.vessel(0), NONE);
        due("vessels", y.count(1), 100);
        due("told(100, 0)", y.told(100, 0), NONE);
    }

    private static void promise3() {
        CocoaYard y = yard();
        due("not a heap", y.buy(1, 0, 1, 0), NONE);
        due("not a heap", y.buy(3, 0, 1, 0), NONE);
        due("no vessel", y.buy(4, 0, 1, 0), NONE);
        due("no vessel", y.buy(-1, 0, 1, 0), NONE);
        due("no plot", y.buy(0, -1, 1, 0), NONE);
        due("no plot", y.buy(0, 60, 1, 0), NONE);
        due("grams 0", y.buy(0, 0, 0, 0), NONE);
        due("grams 100001", y.buy(0, 0, 100_001, 0), NONE);
        due("grams least", y.buy(0, 0, LEAST, 0), NONE);
        due("wetness -1", y.buy(0, 0, 1, -1), NONE);
        due("wetness 901", y.buy(0, 0, 1, 901), NONE);
        due("nothing came", y.told(0, 1), 0);
        due("nothing paid", y.count(5), 0);
        due("buy", y.buy(0, 59, 1, 900), 1);
        due("water cut", y.told(0, 3), 0);
        due("dry", y.part(0, 59), 1);
        due("buy", y.buy(0, 0, 1999, 900), 2000);
        due("water cut", y.told(0, 3), 1799);
        due("dry", y.part(0, 0), 200);
        due("paid", y.count(5), 201);
        for (int i = 1; i < 10; i++) {
            y.buy(0, 1, 100_000, 500);
        }
        due("weight", y.told(0, 1), 902_000);
        due("too heavy", y.buy(0, 2, 98_001, 0), NONE);
        due("not paid", y.count(5), 450_201);
        due("to the brim", y.buy(0, 2, 98_000, 0), 1_000_000);
        due("one more", y.buy(0, 2, 1, 0), NONE);
        y.day(0, false);
        y.vessel(0);
        y.buy(4, 0, 100, 0);
        y.day(0, false);
        y.buy(4, 0, 900, 0);
        due("buying leaves the taste", y.told(4, 5), 1);
    }

    private static void promise4Parts() {
        CocoaYard y = yard();
        y.buy(0, 7, 10, 0);
        y.buy(0, 3, 10, 0);
        y.buy(0, 50, 10, 0);
        due("move 10 of 30", y.move(0, 1, 10), 10);
        due("of alike rests the lowest", y.part(1, 3), 4);
        due("of alike rests the lowest", y.part(1, 7), 3);
        due("of alike rests the lowest", y.part(1, 50), 3);
        due("what stays", y.part(0, 3), 6);
        due("move 11 of 20", y.move(0, 1, 11), 21);
        // 11 * 6 / 20 = 3 rest 6; 11 * 7 / 20 = 3 rest 17, twice
        due("greatest rests", y.part(1, 3), 7);
        due("greatest rests", y.part(1, 7), 7);
        due("greatest rests", y.part(1, 50), 7);
        y = yard();
        y.buy(0, 1, 10, 900);
        due("water is cut first", y.move(0, 1, 1), 1);
        due("one dry gram went", y.part(1, 1), 1);
        due("only water is left", y.told(0, 2), 0);
        due("only water is left", y.told(0, 3), 9);
        due("wetness of water", y.told(0, 4), 1000);
        due("move of water", y.move(0, 1, 9), 10);
        due("all water went", y.told(1, 3), 9);
        y.buy(0, 1, 10, 900);
        y.move(0, 1, 9);
        due("one gram of water", y.told(0, 4), 1000);
        due("move of one gram", y.move(0, 1, 1), 20);
        due("empty", y.told(0, 1), 0);
        due("wetness of an empty one", y.told(0, 4), 0);
    }

    private static void promise4Kinds() {
        CocoaYard y = yard();
        for (int kind = 0; kind < 4; kind++) {
            y.vessel(kind);
        }
        y.buy(0, 0, 100, 0);
        due("heap to tray", y.move(0, 2, 1), NONE);
        due("heap to sack", y.move(0, 3, 1), NONE);
        due("heap to itself", y.move(0, 0, 1), NONE);
        due("heap to heap", y.move(0, 4, 50), 50);
        due("heap to box", y.move(4, 1, 50), 50);
        due("box to heap", y.move(1, 0, 1), NONE);
        due("box to sack", y.move(1, 3, 1), NONE);
        due("box to box", y.move(1, 5, 50), 50);
        due("box to tray", y.move(5, 2, 50), 50);
        due("tray to heap", y.move(2, 0, 1), NONE);
        due("tray to box", y.move(2, 1, 1), NONE);
        due("tray to tray", y.move(2, 6, 50), 50);
        due("tray to sack", y.move(6, 3, 50), 50);
        due("sack to sack", y.move(3, 7, 1), NONE);
        due("sack to tray", y.move(3, 2, 1), NONE);
        due("sack to itself", y.move(3, 3, 1), NONE);
        due("from none", y.move(8, 1, 1), NONE);
        due("from none", y.move(-1, 1, 1), NONE);
        due("to none", y.move(0, 8, 1), NONE);
        due("to none", y.move(0, LEAST, 1), NONE);
        due("all dry is there", y.count(6), 100);
    }

    private static void promise4Limits() {
        CocoaYard y = yard();
        y.buy(0, 0, 100, 500);
        due("grams 0", y.move(0, 1, 0), NONE);
        due("grams -1", y.move(0, 1, -1), NONE);
        due("grams least", y.move(0, 1, LEAST), NONE);
        due("grams 101", y.move(0, 1, 101), NONE);
        due("grams most", y.move(0, 1, MOST), NONE);
        due("from an empty one", y.move(1, 2, 1), NONE);
        due("all", y.move(0, 1, 100), 100);
        for (int i = 0; i < 10; i++) {
            y.buy(0, 0, 100_000, 0);
        }
        due("too heavy", y.move(0, 1, 999_901), NONE);
        due("nothing moved", y.told(0, 1), 1_000_000);
        due("to the brim", y.move(0, 1, 999_900), 1_000_000);
        due("one more", y.move(0, 1, 1), NONE);
        due("on the tray", y.move(1, 2, 1_000_000), 1_000_000);
        for (int i = 0; i < 30; i++) {
            y.day(0, true);
        }
        due("rain knows no limit", y.told(2, 1), 1_000_000 + 30 * 99_995);
        due("wetness in 64 bits", y.told(2, 4), 1000L * 2_999_900 / 3_999_850);
        y.vessel(2);
        due("too heavy", y.move(2, 4, 1_000_001), NONE);
        due("in 64 bits", y.move(2, 4, 1_000_000), 1_000_000);
        due("water", y.told(4, 3), 1_000_000L * 2_999_900 / 3_999_850);
        due("to one that is too heavy", y.move(4, 2, 1), NONE);
    }

    private static void promise4Sacks() {
        CocoaYard y = yard();
        y.buy(0, 0, 10_000, 76);
        y.move(0, 1, 10_000);
        y.move(1, 2, 10_000);
        due("wetness 76", y.move(2, 3, 1), NONE);
        y = yard();
        y.buy(0, 0, 100_000, 75);
        y.buy(0, 0, 75, 900);
        y.move(0, 1, 100_075);
        y.move(1, 2, 100_075);
        due("wetness 75 cut", y.told(2, 4), 75);
        due("wetness 75", y.move(2, 3, 1000), 1000);
        due("again to it", y.move(2, 3, 1000), 2000);
        y.cut(3, 0, 0, 0);
        due("to a cut sack", y.move(2, 3, 1), NONE);
        y.vessel(3);
        due("to another", y.move(2, 4, 1), 1);
    }

    private static void promise4Taste() {
        CocoaYard y = yard();
        y.vessel(1);
        y.vessel(0);
        y.buy(0, 0, 100, 0);
        y.move(0, 1, 100);
        y.turn(1);
        y.day(0, false);
        y.buy(5, 1, 33, 0);
        due("move", y.move(5, 1, 33), 133);
        due("taste mixed, cut", y.told(1, 5), 1200 / 133);
        due("move", y.move(1, 4, 50), 50);
        due("taste of an empty one", y.told(4, 5), 9);
        due("taste stays behind", y.told(1, 5), 9);
        y.turn(4);
        y.day(0, false);
        due("16", y.told(1, 5), 16);
        due("21", y.told(4, 5), 21);
        due("move", y.move(4, 1, 20), 103);
        due("taste mixed, cut", y.told(1, 5), (83 * 16 + 20 * 21) / 103);
        due("move the rest", y.move(4, 1, 30), 133);
        due("an emptied one keeps its taste", y.told(4, 5), 21);
    }

    private static void promise5() {
        CocoaYard y = yard();
        due("turn a heap", y.turn(0), false);
        due("turn a tray", y.turn(2), false);
        due("turn a sack", y.turn(3), false);
        due("turn none", y.turn(4), false);
        due("turn none", y.turn(-1), false);
        due("turn an empty box", y.turn(1), true);
        due("again", y.turn(1), false);
        due("it is", y.told(1, 6), 1);
        y.day(0, false);
        due("no longer", y.told(1, 6), 0);
        due("next day", y.turn(1), true);
        due("a heap never is", y.told(0, 6), 0);
    }

    private static void promise6() {
        CocoaYard y = yard();
        due("cover a heap", y.cover(0, true), false);
        due("cover a box", y.cover(1, true), false);
        due("uncover a sack", y.cover(3, false), false);
        due("cover none", y.cover(4, true), false);
        due("cover none", y.cover(-1, true), false);
        due("it is bare", y.cover(2, false), false);
        due("cover", y.cover(2, true), true);
        due("again", y.cover(2, true), false);
        due("told", y.told(2, 6), 1);
        y.day(3, true);
        due("a day leaves it", y.told(2, 6), 1);
        due("uncover", y.cover(2, false), true);
        due("told", y.told(2, 6), 0);
        due("sacks never are", y.told(3, 6), 0);
    }

    private static void promise7Boxes() {
        CocoaYard y = yard();
        due("sun -1", y.day(-1, false), NONE);
        due("sun 13", y.day(13, true), NONE);
        due("sun least", y.day(LEAST, true), NONE);
        due("still day 0", y.count(0), 0);
        due("day", y.day(12, false), 1);
        due("an empty box stays", y.told(1, 5), 0);
        due("an empty heap stays", y.told(0, 5), 0);
        y.buy(0, 0, 10, 0);
        y.move(0, 1, 5);
        for (int i = 0; i < 14; i++) {
            due("day", y.day(0, true), 2 + i);
        }
        due("98", y.told(1, 5), 98);
        due("heap 14", y.told(0, 5), 14);
        y.turn(1);
        y.day(0, false);
        due("at most 100", y.told(1, 5), 100);
        y.day(0, false);
        due("at most 100", y.told(1, 5), 100);
        for (int i = 0; i < 90; i++) {
            y.day(0, false);
        }
        due("heap at most 100", y.told(0, 5), 100);
        y = yard();
        y.buy(0, 0, 10, 0);
        y.move(0, 1, 10);
        y.turn(1);
        y.day(0, false);
        y.day(0, false);
        due("turned once", y.told(1, 5), 19);
        y.move(1, 2, 10);
        y.day(0, false);
        due("a tray's taste stays", y.told(2, 5), 19);
        y.move(2, 3, 10);
        y.day(0, true);
        due("a sack's taste stays", y.told(3, 5), 19);
        due("a sack's water stays", y.told(3, 3), 0);
    }

    private static void promise7Trays() {
        CocoaYard y = yard();
        y.buy(0, 0, 100, 450);
        y.buy(0, 1, 105, 450);
        y.move(0, 1, 205);
        y.move(1, 2, 205);
        due("dry", y.told(2, 2), 113);
        due("water", y.told(2, 3), 92);
        y.day(3, false);
        due("sun 3", y.told(2, 3), 92 - 339 / 40);
        y.day(0, false);
        due("sun 0", y.told(2, 3), 84);
        y.day(12, true);
        due("rain", y.told(2, 3), 84 + 11);
        y.cover(2, true);
        y.day(12, true);
        y.day(12, false);
        due("covered", y.told(2, 3), 95);
        y.cover(2, false);
        y.day(12, false);
        due("sun 12", y.told(2, 3), 95 - 33);
        y.day(12, false);
        y.day(12, false);
        due("0 at least", y.told(2, 3), 0);
        due("dry stays", y.told(2, 2), 113);
        y = yard();
        y.buy(0, 0, 80_000, 500);
        y.move(0, 1, 80_000);
        y.move(1, 2, 80_000);
        y.day(12, false);
        due("12 hours of 40,000 by 40", y.told(2, 3), 28_000);
    }

    /** A sack 3 with a taste. */
    private static CocoaYard tasting(int taste) {
        CocoaYard y = yard();
        y.buy(0, 0, 10, 0);
        for (int i = 0; i < taste % 7; i++) {
            y.day(0, false);
        }
        y.move(0, 1, 10);
        for (int i = 0; i < taste / 7; i++) {
            y.day(0, false);
        }
        y.move(1, 2, 10);
        y.move(2, 3, 10);
        due("taste", y.told(3, 5), taste);
        return y;
    }

    private static void promise8() {
        CocoaYard small = yard();
        small.buy(0, 0, 1, 0);
        small.move(0, 1, 1);
        small.day(0, false);
        due("one gram ripens", small.told(1, 5), 7);
        small.move(1, 2, 1);
        due("one gram", small.move(2, 3, 1), 1);
        due("one gram is cut", small.cut(3, 0, 0, 0), 2);
        due("grade 1", tasting(50).cut(3, 3, 3, 3), 1);
        due("grade 1", tasting(90).cut(3, 0, 0, 0), 1);
        due("taste 49", tasting(49).cut(3, 3, 3, 3), 2);
        due("taste 91", tasting(91).cut(3, 0, 0, 0), 2);
        due("mouldy 4", tasting(50).cut(3, 4, 0, 0), 2);
        due("slaty 4", tasting(50).cut(3, 0, 4, 0), 2);
        due("flat 4", tasting(50).cut(3, 0, 0, 4), 2);
        due("4 8 6", tasting(50).cut(3, 4, 8, 6), 2);
        due("mouldy 5", tasting(50).cut(3, 5, 0, 0), 3);
        due("slaty 9", tasting(50).cut(3, 0, 9, 0), 3);
        due("flat 7", tasting(50).cut(3, 0, 0, 7), 3);
        CocoaYard y = tasting(70);
        due("no grade yet", y.told(3, 7), 0);
        due("100 is right", tasting(1).cut(3, 50, 50, 0), 3);
        due("101 together", y.cut(3, 50, 50, 1), NONE);
        due("101", y.cut(3, 0, 0, 101), NONE);
        due("-1", y.cut(3, -1, 0, 0), NONE);
        due("-1", y.cut(3, 0, -1, 0), NONE);
        due("-1", y.cut(3, 0, 0, -1), NONE);
        due("wide", y.cut(3, MOST, MOST, 2), NONE);
        due("not a sack", y.cut(2, 0, 0, 0), NONE);
        due("no vessel", y.cut(4, 0, 0, 0), NONE);
        due("no vessel", y.cut(-1, 0, 0, 0), NONE);
        y.vessel(3);
        due("an empty one", y.cut(4, 0, 0, 0), NONE);
        due("still no grade", y.told(3, 7), 0);
        due("grade 3", y.cut(3, 100, 0, 0), 3);
        due("again", y.cut(3, 101, 0, 0), NONE);
        due("again", y.cut(3, 1, 2, 3), 1);
        due("the later counts", y.told(3, 7), 1);
        due("no third", y.cut(3, 0, 0, 0), NONE);
        y = tasting(70);
        y.cut(3, 9, 9, 9);
        due("twice 3", y.cut(3, 8, 8, 8), 3);
        due("no third", y.cut(3, 0, 0, 0), NONE);
        due("it stays", y.told(3, 7), 3);
    }

    private static void promise9() {
        CocoaYard y = new CocoaYard();
        due("all 0", y.feed(0, 0, 0, 0, 0), 0);
        due("feed", y.feed('g', '*' << 8, 'q' << 16, '+' << 24, 'p'), 5);
        due("in their order", y.fault(), NONE);
        due("high bytes", y.feed(0xff000000, 0, 0, 0, 0x80), 7);
        due("high bytes are a fault", y.fault(), 5);
        due("end", y.end(0), true);
        int full = 0x67676767;
        for (int i = 1; i <= 9; i++) {
            due("feed", y.feed(full, full, full, full, full), 20 * i);
        }
        due("199", y.feed(full, full, full, full, 0x67676700), 199);
        due("201", y.feed(0, 0, 0, 0, 0x6767), NONE);
        due("as it was", y.count(8), 199);
        due("200", y.feed(0, 0, 0, 0, 0x67), 200);
        due("nothing more", y.feed(0, 0, 0, 0, 0), 200);
        due("201", y.feed(1, 0, 0, 0, 0), NONE);
        due("201", y.feed(0, 1 << 8, 0, 0, 0), NONE);
        due("201", y.feed(0, 0, 1 << 16, 0, 0), NONE);
        due("201", y.feed(0, 0, 0, 1 << 24, 0), NONE);
        due("as it was", y.count(8), 200);
    }

    private static void promise10() {
        CocoaYard y = new CocoaYard();
        due("an empty text", y.vote(0), NONE);
        feed(y, "g+");
        due("a fault", y.vote(0), NONE);
        due("the text stays", y.count(8), 2);
        feed(y, "1");
        due("day -1", y.vote(-1), NONE);
        due("day 10001", y.vote(10_001), NONE);
        due("the text stays", y.count(8), 3);
        due("vote", y.vote(10_000), 0);
        due("the text is empty", y.count(8), 0);
        due("the text is empty", y.fault(), 0);
        for (int i = 1; i < 50; i++) {
            due("vote", voteFor(y, "g", 0), i);
        }
        due("there are 50", voteFor(y, "q", 0), NONE);
        due("the text stays", y.count(8), 1);
        y.unvote(3);
        due("one that was taken back counts", y.vote(0), NONE);
        due("votes", y.count(2), 50);
    }

    private static void promise11() {
        dueFault("", 0);
        dueFault("g", NONE);
        dueFault("   ", 3);
        dueFault(" g * q - ( p + 7 ) * 0012 ", NONE);
        dueFault("12 34", 3);
        dueFault("12345", 4);
        dueFault("1234 5", 5);
        dueFault("1234+5678", NONE);
        dueFault("12345+", 4);
        dueFault("-g", 0);
        dueFault("g--q", 2);
        dueFault("g+", 2);
        dueFault("g* ", 3);
        dueFault("gq", 1);
        dueFault("g1", 1);
        dueFault("1g", 1);
        dueFault("g(q)", 1);
        dueFault("(g)q", 3);
        dueFault("(g)(q)", 3);
        dueFault("()", 1);
        dueFault(")", 0);
        dueFault("(g", 2);
        dueFault("(g))", 3);
        dueFault("((((((((g))))))))", NONE);
        dueFault("(((((((((g)))))))))", 8);
        dueFault("((((((((g))))))))+((((((((1))))))))", NONE);
        dueFault("((((((((", 8);
        dueFault("(((((((( (", 9);
        dueFault("g/q", 1);
        dueFault("G", 0);
        dueFault("g\tq", 1);
        dueFault("g\u00e7", 1);
        dueFault("g+\u0080", 2);
        dueFault("x", 0);
    }

    private static void dueFault(String text, int want) {
        CocoaYard y = new CocoaYard();
        feed(y, text);
        due("fault of '" + text + "'", y.fault(), want);
        due("vote of '" + text + "'", y.vote(0), want == NONE ? 0 : NONE);
    }

    private static void promise12() {
        CocoaYard y = new CocoaYard();
        due("end(0) of none", y.end(0), true);
        due("end(1) of none", y.end(1), false);
        feed(y, "g*q");
        due("end(-1)", y.end(-1), false);
        due("end(4)", y.end(4), false);
        due("end(most)", y.end(MOST), false);
        due("as it was", y.count(8), 3);
        due("end(3)", y.end(3), true);
        due("as it was", y.count(8), 3);
        due("end(2)", y.end(2), true);
        due("fault", y.fault(), 2);
        due("no way back", y.end(3), false);
        due("feed", feed(y, "p"), 3);
        due("fault", y.fault(), NONE);
    }

    private static void promise13() {
        CocoaYard y = sacked(0, 10, 1, 30);
        due("no vote", y.unvote(0), NONE);
        due("no vote", y.unvote(-1), NONE);
        due("premium by g", y.premium(3, 100), 0);
        due("vote 0", voteFor(y, "40-g", 0), 0);
        due("vote 1", voteFor(y, "1", 0), 1);
        due("premium by vote 1", y.premium(3, 100), 1);
        due("entries", y.count(4), 4);
        y.day(0, false);
        due("vote 2", voteFor(y, "p*2", 1), 2);
        due("premium by vote 2", y.premium(3, 10), 2);
        due("two hang on none", y.voted(0, 2), 0);
        due("one on vote 1", y.voted(1, 2), 1);
        due("one on vote 2", y.voted(2, 2), 1);
        y.day(0, false);
        due("taken back, nothing changes", y.unvote(2), 0);
        due("it hangs on vote 1 now", y.voted(1, 2), 2);
        due("none on vote 2", y.voted(2, 2), 0);
        due("taken back", y.unvote(1), 4);
        dueEntry(y, 6, 2, 1, 0, 25);
        dueEntry(y, 7, 2, 1, 1, -25);
        dueEntry(y, 8, 2, 2, 0, 3);
        dueEntry(y, 9, 2, 2, 1, -3);
        due("both hang on vote 0", y.voted(0, 2), 2);
        due("again", y.unvote(1), NONE);
        due("taken back", y.unvote(0), 4);
        dueEntry(y, 10, 2, 1, 0, -50);
        // 10 * 10 / 40 = 2 rest 20, 10 * 30 / 40 = 7 rest 20: of alike rests the lowest number first
        dueEntry(y, 12, 2, 2, 0, -5);
        due("coins", y.coins(0), 25 + 25 + 3);
        due("coins", y.coins(1), 75 + 75 + 7);
        due("no vote 3", y.unvote(3), NONE);
    }

    /** A later vote from a day ahead takes what hung on an earlier one. */
    private static void promise13Order() {
        CocoaYard y = sacked(5, 1, 6, 3);
        y.day(0, false);
        voteFor(y, "1", 1);
        y.premium(3, 8);
        voteFor(y, "4-g", 0);
        voteFor(y, "g*0+7", 2);
        due("taken back", y.unvote(0), 2);
        dueEntry(y, 2, 1, 0, 5, 2);
        dueEntry(y, 3, 1, 0, 6, -2);
        due("by vote 1", y.voted(1, 2), 1);
        due("vote 2 is from day 2 on", y.voted(2, 2), 0);
        due("nothing hangs on it", y.unvote(2), 0);
    }

    /** The grade of the day of the premium counts for ever, the new one for later premiums. */
    private static void promise13Grade() {
        CocoaYard y = yard();
        y.buy(0, 0, 1, 0);
        y.buy(0, 1, 3, 0);
        through(y, 4);
        due("grade 3", y.cut(3, 10, 10, 10), 3);
        voteFor(y, "g+q", 0);
        voteFor(y, "1", 0);
        due("premium", y.premium(3, 100), 0);
        due("grade 2", y.cut(3, 0, 0, 0), 2);
        due("taken back", y.unvote(1), 2);
        due("(1 + 3) of 10", y.coins(0), 40);
        due("premium", y.premium(3, 800), 1);
        due("(1 + 2) of 8", y.coins(0), 340);
        due("worth by the later grade", y.worth(0, 3, 0), 3);
    }

    private static void promise14() {
        CocoaYard y = yard();
        y.buy(0, 19, 5, 0);
        y.buy(0, 39, 5, 0);
        y.buy(0, 40, 10, 0);
        through(y, 20);
        due("no grade", y.premium(3, 5), NONE);
        y.cut(3, 0, 0, 0);
        due("not a sack", y.premium(2, 5), NONE);
        due("no sack", y.premium(4, 5), NONE);
        due("no sack", y.premium(-1, 5), NONE);
        due("coins 0", y.premium(3, 0), NONE);
        due("coins -1", y.premium(3, -1), NONE);
        due("coins 1000001", y.premium(3, 1_000_001), NONE);
        due("nothing", y.count(3), 0);
        due("premium", y.premium(3, 1), 0);
        due("entries of 0 too", y.count(4), 2);
        dueEntry(y, 0, 0, 0, 0, 1);
        dueEntry(y, 1, 0, 0, 19, 0);
        y.day(1, true);
        voteFor(y, "p", 1);
        due("premium", y.premium(3, 1_000_000), 1);
        // member 0 has one plot, 19 has two
        dueEntry(y, 2, 1, 1, 0, 333_333);
        dueEntry(y, 3, 1, 1, 19, 666_667);
        voteFor(y, "5", 2);
        due("premium", y.premium(3, 3), 2);
        dueEntry(y, 4, 1, 2, 0, 1);
        y.day(0, false);
        due("premium", y.premium(3, 10), 3);
        dueEntry(y, 6, 2, 3, 0, 5);
        due("others get nothing", y.count(4), 8);
        for (int i = 4; i < 100; i++) {
            due("premium", y.premium(3, 2), i);
        }
        due("there are 100", y.premium(3, 2), NONE);
        due("premiums", y.count(3), 100);
        due("coins of all", y.count(9), 1 + 1_000_000 + 3 + 10 + 192);
    }

    /** A text that tells 0 of all, and one that tells 0 of some. */
    private static void promise14Zero() {
        CocoaYard y = sacked(3, 1, 4, 2, 25, 1);
        voteFor(y, "g-g", 0);
        y.premium(3, 8);
        due("by g", y.coins(3), 2);
        due("by g", y.coins(4), 4);
        due("by g", y.coins(5), 2);
        due("it hangs on the vote", y.voted(0, 2), 1);
        voteFor(y, "g-1", 0);
        y.premium(3, 8);
        due("0 of it", y.coins(3), 2);
        due("all of it", y.coins(4), 12);
        due("entries", y.count(4), 6);
        voteFor(y, "0-g", 0);
        y.premium(3, 4);
        due("below 0 is 0 of all: by g", y.coins(3), 3);
    }

    private static void promise14Rests() {
        CocoaYard y = sacked(0, 1, 1, 1, 2, 1, 3, 1, 4, 1, 5, 1, 6, 1);
        y.premium(3, 10);
        due("lowest first", y.coins(0), 2);
        due("lowest first", y.coins(2), 2);
        due("lowest first", y.coins(3), 1);
        y = sacked(10, 2, 2, 3, 7, 6);
        y.premium(3, 8);
        // 8 * 3 / 11 = 2 rest 2; 8 * 6 / 11 = 4 rest 4; 8 * 2 / 11 = 1 rest 5
        due("member 2", y.coins(2), 2);
        due("member 7", y.coins(7), 4);
        due("member 10", y.coins(10), 2);
    }

    /** The most of everything: parts in 64 bits, and a hundred thousand entries. */
    private static void promise14Most() {
        int[] all = new int[40];
        for (int m = 0; m < 20; m++) {
            all[2 * m] = m;
            all[2 * m + 1] = 1000 + m;
        }
        CocoaYard y = sacked(all);
        for (int i = 0; i < 50; i++) {
            voteFor(y, i % 2 == 0 ? "9999*9999*9999-g*9999" : "(g-999)*(g-999)", 0);
        }
        for (int i = 0; i < 100; i++) {
            y.premium(3, 1_000_000);
        }
        for (int i = 49; i >= 0; i--) {
            due("unvote", y.unvote(i), 2000);
        }
        due("entries", y.count(4), 102_000);
        long sum = 0;
        for (int m = 0; m < 20; m++) {
            sum += y.coins(m);
        }
        due("no coin is lost", sum, 100_000_000L);
        due("the last entry's premium", y.entry(101_999, 1), 99);
        due("the last entry's member", y.entry(101_999, 2), 19);
    }

    private static void promise15And16() {
        CocoaYard y = yard();
        y.buy(0, 0, 7, 500);
        y.buy(0, 20, 8, 500);
        y.buy(0, 59, 1, 0);
        due("part", y.part(0, 0), 4);
        due("part", y.part(0, 20), 4);
        due("part", y.part(0, 1), 0);
        due("part(0, 60)", y.part(0, 60), 0);
        due("part(0, -1)", y.part(0, -1), 0);
        due("part(4, 0)", y.part(4, 0), 0);
        due("part(-1, 0)", y.part(-1, 0), 0);
        long[] want = {0, 16, 9, 7, 437, 0, 0, 0, 3, NONE};
        for (int what = 0; what < want.length; what++) {
            due("told(0, " + what + ")", y.told(0, what), want[what]);
        }
        due("told(0, -1)", y.told(0, -1), NONE);
        due("told(4, 0)", y.told(4, 0), NONE);
        due("told(-1, 0)", y.told(-1, 0), NONE);
        due("told(least, most)", y.told(LEAST, MOST), NONE);
        for (int kind = 1; kind < 4; kind++) {
            due("kind", y.told(kind, 0), kind);
            for (int what = 1; what < 9; what++) {
                due("empty: told(" + kind + ", " + what + ")", y.told(kind, what), 0);
            }
        }
        y.move(0, 1, 16);
        due("plots that left do not count", y.told(0, 8), 0);
        due("plots", y.told(1, 8), 3);
    }

    private static void promise17And18() {
        CocoaYard y = sacked(19, 1, 0, 1);
        y.day(0, false);
        y.premium(3, 7);
        due("coins", y.coins(0), 4);
        due("coins", y.coins(19), 3);
        due("coins", y.coins(1), 0);
        due("coins(20)", y.coins(20), 0);
        due("coins(-1)", y.coins(-1), 0);
        dueEntry(y, 0, 1, 0, 0, 4);
        dueEntry(y, 1, 1, 0, 19, 3);
        due("entry(2, 0)", y.entry(2, 0), 0);
        due("entry(-1, 0)", y.entry(-1, 0), 0);
        due("entry(most, 3)", y.entry(MOST, 3), 0);
        due("entry(1, 4)", y.entry(1, 4), 0);
        due("entry(1, -1)", y.entry(1, -1), 0);
        due("entry(0, 4)", y.entry(0, 4), 0);
    }

    private static void promise19() {
        CocoaYard y = sacked(5, 10, 25, 20, 45, 30, 6, 7);
        due("the text g", y.worth(0, 3, 5), 60);
        due("no dry", y.worth(10_000, 3, 4), 0);
        due("member 19", y.worth(0, 3, 19), 0);
        due("member 0", y.worth(0, 3, 0), 0);
        due("day -1", y.worth(-1, 3, 5), NONE);
        due("day 10001", y.worth(10_001, 3, 5), NONE);
        due("not a sack", y.worth(0, 2, 5), NONE);
        due("no sack", y.worth(0, 4, 5), NONE);
        due("no sack", y.worth(0, -1, 5), NONE);
        due("member -1", y.worth(0, 3, -1), NONE);
        due("member 20", y.worth(0, 3, 20), NONE);
        dueWorth(y, "g*q+p", 123);
        dueWorth(y, "g-q-p", 55);
        dueWorth(y, "g-(q-p)", 61);
        dueWorth(y, "2+3*4-5*2*1", 4);
        dueWorth(y, " ( 2 + 3 ) * ( 4 - 1 ) ", 15);
        dueWorth(y, "((((((((2))))))))*3-((((((((1))))))))", 5);
        dueWorth(y, "0012*0100", 1200);
        dueWorth(y, "5", 5);
        dueWorth(y, "1-2", 0);
        dueWorth(y, "1-2+3", 2);
        dueWorth(y, "9999*9999*10", 999_800_010);
        dueWorth(y, "1000*1000*1000", 1_000_000_000);
        dueWorth(y, "1000*1000*1000+1", 1_000_000_000);
        dueWorth(y, "1000*1000*1000*5-1000*1000*1000*5+7", 7);
        // 2^63 is below 0 in 64 bits, 2^64 is 0
        dueWorth(y, "1024*1024*1024*1024*1024*1024*8", 0);
        dueWorth(y, "1024*1024*1024*1024*1024*1024*8-1", 1_000_000_000);
        dueWorth(y, "1024*1024*1024*1024*1024*1024*16+9", 9);
        voteFor(y, "q+5", 7);
        due("without dry there", y.worth(7, 3, 4), 7);
        due("the day ahead", y.worth(6, 3, 4), 9);
        y.vessel(3);
        due("an empty sack has no grade", y.worth(7, 4, 0), 5);
    }

    /** Of member 5 with 60 g of three plots, in a sack of grade 2. */
    private static void dueWorth(CocoaYard y, String text, long want) {
        int vote = voteFor(y, text, 0);
        due("worth by " + text, y.worth(0, 3, 5), want);
        due("in force", y.force(0), vote);
    }

    private static void promise20And21() {
        CocoaYard y = new CocoaYard();
        voteFor(y, "1", 5);
        voteFor(y, "2", 10_000);
        voteFor(y, "3", 0);
        voteFor(y, "4", 3);
        due("force(0)", y.force(0), 2);
        due("force(2)", y.force(2), 2);
        due("force(3)", y.force(3), 3);
        due("force(5)", y.force(5), 3);
        due("force(10000)", y.force(10_000), 3);
        due("force(10001)", y.force(10_001), NONE);
        due("force(-1)", y.force(-1), NONE);
        y.unvote(3);
        due("force(5)", y.force(5), 2);
        y.unvote(2);
        due("force(4)", y.force(4), NONE);
        due("force(5)", y.force(5), 0);
        due("force(9999)", y.force(9999), 0);
        due("force(10000)", y.force(10_000), 1);
        due("voted from", y.voted(1, 0), 10_000);
        due("voted from", y.voted(3, 0), 3);
        due("not taken back", y.voted(1, 1), 0);
        due("taken back", y.voted(2, 1), 1);
        due("voted(0, 3)", y.voted(0, 3), NONE);
        due("voted(0, -1)", y.voted(0, -1), NONE);
        due("voted(4, 0)", y.voted(4, 0), NONE);
        due("voted(-1, 2)", y.voted(-1, 2), NONE);
        due("votes, those taken back too", y.count(2), 4);
    }

    private static void promise22To24() {
        CocoaYard y = new CocoaYard();
        due("job(-1, 3)", y.job(-1, 3), NONE);
        due("job(3, 60)", y.job(3, 60), NONE);
        due("job(4, 3)", y.job(4, 3), NONE);
        due("job(60, 60)", y.job(60, 60), NONE);
        due("job(least, most)", y.job(LEAST, MOST), NONE);
        due("places(-1, 1)", y.places(-1, 1), false);
        due("places(60, 1)", y.places(60, 1), false);
        due("places(0, -1)", y.places(0, -1), false);
        due("places(0, 10)", y.places(0, 10), false);
        due("places(59, 9)", y.places(59, 9), true);
        due("places(0, 2)", y.places(0, 2), true);
        due("places(1, 1)", y.places(1, 1), true);
        due("job(0, 59)", y.job(0, 59), 0);
        due("job(0, 1)", y.job(0, 1), 1);
        due("job(0, 1)", y.job(0, 1), 2);
        due("job(0, 1)", y.job(0, 1), 3);
        due("planned(0)", y.planned(0), 59);
        due("lowest number", y.planned(1), 0);
        due("lowest number", y.planned(2), 0);
        due("planned(3)", y.planned(3), 1);
        due("planned(4)", y.planned(4), NONE);
        due("planned(-1)", y.planned(-1), NONE);
        due("places(1, 0)", y.places(1, 0), true);
        due("none has a day", y.planned(1), NONE);
        due("none has a day", y.planned(0), NONE);
        y.places(1, 9);
        due("early days first", y.planned(0), 1);
        for (int i = 4; i < 60; i++) {
            due("job", y.job(59, 59), i);
        }
        due("there are 60", y.job(0, 0), NONE);
        due("too many", y.planned(0), NONE);
        due("too many to plan", y.planned(60), NONE);
        y.clear();
        for (int i = 0; i < 60; i++) {
            y.places(i, 1);
            y.job(i, 59);
        }
        due("the last of 60", y.planned(59), 59);
        due("none behind it", y.planned(60), NONE);
        y = new CocoaYard();
        y.places(2, 1);
        y.places(3, 1);
        y.places(4, 1);
        y.job(2, 9);
        y.job(2, 4);
        y.job(3, 3);
        due("the least last day", y.planned(1), 2);
        due("the least last day", y.planned(2), 3);
        due("the least last day", y.planned(0), 4);
    }

    private static void promise25() {
        CocoaYard y = new CocoaYard();
        y.job(0, 0);
        y.job(1, 1);
        due("day 0", y.row(true), 0);
        y = new CocoaYard();
        due("no jobs", y.row(false), NONE);
        y.job(0, 59);
        due("first", y.row(false), 0);
        due("last", y.row(true), 59);
        y.places(30, 1);
        due("all have a day", y.row(false), NONE);
        due("all have a day", y.row(true), NONE);
        y.job(20, 30);
        y.job(25, 33);
        due("first", y.row(false), 20);
        due("last", y.row(true), 33);
        y.job(30, 30);
        due("least last day", y.row(true), 30);
        due("of these the greatest first", y.row(false), 20);
        y.job(29, 29);
        due("first", y.row(false), 29);
        due("last", y.row(true), 29);
        y.places(29, 1);
        due("last", y.row(true), 30);
        due("first", y.row(false), 20);
        y.places(30, 3);
        due("last", y.row(true), 59);
        due("first", y.row(false), 0);
        y.places(59, 1);
        due("all have a day", y.row(true), NONE);
    }

    private static void promise26() {
        CocoaYard y = new CocoaYard();
        y.places(3, 1);
        y.job(3, 3);
        y.job(0, 5);
        y.clear();
        due("jobs", y.count(7), 0);
        due("planned", y.planned(0), NONE);
        due("row", y.row(false), NONE);
        due("numbers begin anew", y.job(2, 3), 0);
        due("places stay", y.planned(0), 3);
    }

    private static void promise27() {
        CocoaYard y = sacked(1, 10, 2, 20);
        y.buy(0, 3, 100, 500);
        y.day(0, false);
        y.premium(3, 30);
        y.premium(3, 40);
        voteFor(y, "g", 0);
        y.job(0, 0);
        feed(y, "abc");
        long[] want = {1, 4, 1, 2, 4, 80, 80, 1, 3, 70};
        for (int what = 0; what < want.length; what++) {
            due("count(" + what + ")", y.count(what), want[what]);
        }
        due("count(10)", y.count(10), NONE);
        due("count(-1)", y.count(-1), NONE);
        due("count(least)", y.count(LEAST), NONE);
    }
}
