/** The boundary cases of premiums and of votes taken back: promises 13, 14, 17, 18 and 21, a test for each sentence. */
public final class PremiumBoundsTest extends Yards {
    public static void main(String[] args) {
        premiumCoins();
        premiumSacks();
        premiumGrade();
        premiumHundred();
        premiumMembersWithDry();
        premiumZeroCoins();
        premiumZeroOfAll();
        premiumZeroOfSome();
        premiumRests();
        premiumInForceToday();
        premiumOfTheMostTold();
        premiumInSixtyFourBits();
        premiumRestsInSixtyFourBits();
        premiumByAWrappedText();
        unvoteNumbers();
        unvoteTwice();
        unvoteFifty();
        unvoteNothing();
        unvoteJustWhatHung();
        unvoteForItsDay();
        unvoteByALaterVote();
        unvoteAtLast();
        unvoteInOrder();
        unvoteUnchanged();
        unvoteSackForEver();
        unvoteTheMost();
        coinsBounds();
        entryBounds();
        entryBehindTheLast();
        votedBounds();
        votedPremiums();
        Due.finish();
    }

    private static void premiumCoins() {
        sentence("Promise 14: coins (1 .. 1,000,000)");
        Yard y = sacked(0, 5, 1, 5);
        y.would(premium(3, 1), 0);
        y.would(premium(3, 1_000_000), 0);
        for (int coins : join(FAR, -1, 0, 1_000_001)) {
            y.refuses(premium(3, coins));
        }
        y.due(premium(3, 1_000_000), 0);
        y.due(coins(0), 500_000);
        y.due(count(9), 1_000_000);
        y.refusesAll(premium(3, 0), premium(3, 1_000_001));
        y.due(premium(3, 1), 1);
        y.due(count(9), 1_000_001);
    }

    private static void premiumSacks() {
        sentence("Promise 14: no such SACK");
        Yard y = sacked(0, 5, 1, 5).and(buy(0, 0, 9, 0), move(0, 1, 6), move(1, 2, 3));
        y.would(premium(3, 5), 0);
        for (int other : join(FAR, -1, 0, 1, 2, 4, 99, 100)) {
            y.refuses(premium(other, 5));
        }
    }

    private static void premiumGrade() {
        sentence("Promise 14: no GRADE");
        yard().refuses(premium(3, 5));
        Yard y = sackTasting(70);
        y.refuses(premium(3, 5));
        y.refuses(cut(3, 101, 0, 0));
        y.refuses(premium(3, 5));
        int[] mouldy = {3, 4, 5};
        for (int n : mouldy) {
            y.again().and(cut(3, n, 0, 0)).would(premium(3, 5), 0);
        }
    }

    private static void premiumHundred() {
        sentence("Promise 14: there are 100");
        Yard y = voting(sacked(0, 5, 1, 5), "g", 0).and(vessel(3), buy(0, 2, 4, 0));
        y.and(move(0, 1, 4), move(1, 2, 4), move(2, 4, 4), cut(4, 0, 0, 0));
        for (int i = 0; i < 100; i++) {
            y.due(premium(3, 10), i);
        }
        y.refusesAll(premium(3, 10), premium(3, 1), premium(4, 10), premium(3, 1_000_000), premium(3, 0));
        y.due(count(3), 100);
        y.due(count(4), 200);
        y.due(count(9), 1000);
        y.due(coins(0), 500);
        y.due(coins(2), 0);
        dueEntry(y, 199, 0, 99, 1, 5);
        y.due(voted(0, 2), 100);
        y.make(day(0, false));
        y.make(unvote(0));
        y.refuses(premium(3, 10));
    }

    private static void premiumMembersWithDry() {
        sentence("Terms: PARTED among the MEMBERS that have DRY in it");
        Yard y = voting(sacked(0, 1, 20, 1, 59, 1), "7", 0);
        y.due(worth(0, 3, 5), 7);
        y.due(premium(3, 10), 0);
        y.due(count(4), 2);
        dueEntry(y, 0, 0, 0, 0, 5);
        dueEntry(y, 1, 0, 0, 19, 5);
        y.due(coins(5), 0);
        Yard one = voting(sacked(13, 1), "0", 0).and(premium(3, 1_000_000));
        one.due(count(4), 1);
        dueEntry(one, 0, 0, 0, 13, 1_000_000);
        Yard all = sackedByAll(3).and(premium(3, 40));
        all.due(count(4), 20);
        for (int member = 0; member < 20; member++) {
            dueEntry(all, member, 0, 0, member, 2);
        }
    }

    private static void premiumZeroCoins() {
        sentence("Terms: ENTRIES by MEMBERS, those of 0 coins too");
        Yard y = sackedByAll(3).and(premium(3, 1));
        y.due(count(4), 20);
        for (int member = 0; member < 20; member++) {
            dueEntry(y, member, 0, 0, member, member == 0 ? 1 : 0);
        }
        Yard none = voting(sacked(4, 1, 3, 9), "g-1", 0).and(premium(3, 7));
        none.due(count(4), 2);
        dueEntry(none, 0, 0, 0, 3, 7);
        dueEntry(none, 1, 0, 0, 4, 0);
    }

    private static void premiumZeroOfAll() {
        sentence("Terms: if that is 0 of all, by g");
        String[] texts = {"0", "g-g", "0-g", "g*0", "p-1", TWO_TO_64, "0-" + TWO_TO_64};
        for (String text : texts) {
            Yard y = voting(sacked(3, 1, 4, 3), text, 0).and(premium(3, 8));
            y.due(worth(0, 3, 3), 0);
            y.due(coins(3), 2);
            y.due(coins(4), 6);
            y.due(voted(0, 2), 1);
        }
        Yard all = voting(sackedByAll(2), "g-2", 0).and(premium(3, 60));
        for (int member = 0; member < 20; member++) {
            all.due(coins(member), 3);
        }
    }

    private static void premiumZeroOfSome() {
        sentence("Terms: if that is 0 of all, by g; of some, by what is told");
        Yard y = voting(sacked(3, 1, 4, 2, 5, 100), "g*(2-g)+g*(g-1)*(3-g)", 0);
        y.due(worth(0, 3, 3), 1);
        y.due(worth(0, 3, 4), 2);
        y.due(worth(0, 3, 5), 0);
        y.make(premium(3, 9));
        y.due(coins(3), 3);
        y.due(coins(4), 6);
        y.due(coins(5), 0);
        Yard others = voting(sacked(3, 1, 4, 3), "1-p", 0);
        others.due(worth(0, 3, 5), 1);
        others.make(premium(3, 8));
        others.due(coins(3), 2);
        others.due(coins(4), 6);
        others.due(coins(5), 0);
    }

    private static void premiumRests() {
        sentence("Terms: TO PART: what is left goes by ones to those with the greatest rests, of alike rests the lowest first");
        for (int coins = 1; coins <= 41; coins++) {
            Yard y = sackedByAll(1).and(premium(3, coins));
            for (int member = 0; member < 20; member++) {
                y.due(coins(member), coins / 20 + (member < coins % 20 ? 1 : 0));
            }
        }
        // 8 * 3 / 11 = 2 rest 2; 8 * 6 / 11 = 4 rest 4; 8 * 2 / 11 = 1 rest 5
        Yard y = sacked(19, 2, 0, 3, 7, 6).and(premium(3, 8));
        y.due(coins(0), 2);
        y.due(coins(7), 4);
        y.due(coins(19), 2);
    }

    private static void premiumInForceToday() {
        sentence("Terms: by what the TEXT IN FORCE TODAY tells of each");
        Yard y = voting(voting(sacked(0, 1, 1, 3), "1", 1), "4-g", 2);
        y.make(premium(3, 8));
        dueEntry(y, 0, 0, 0, 0, 2);
        y.and(day(0, false), premium(3, 8));
        dueEntry(y, 2, 1, 1, 0, 4);
        y.and(day(0, false), premium(3, 8));
        dueEntry(y, 4, 2, 2, 0, 6);
        dueEntry(y, 5, 2, 2, 1, 2);
        y.and(day(0, false), premium(3, 8));
        dueEntry(y, 6, 3, 3, 0, 6);
        y.due(voted(0, 2), 1);
        y.due(voted(1, 2), 2);
    }

    private static void premiumOfTheMostTold() {
        sentence("Terms: above 1,000,000,000 that, as measures");
        Yard y = voting(sacked(0, 1, 1, 4), "g*500*1000*1000", 0).and(premium(3, 9));
        y.due(coins(0), 3);
        y.due(coins(1), 6);
        Yard below = voting(sacked(0, 1, 1, 4), "g-3", 0).and(premium(3, 9));
        below.due(coins(0), 0);
        below.due(coins(1), 9);
    }

    private static void premiumInSixtyFourBits() {
        sentence("Terms: TO PART the most coins by the greatest measures");
        Yard y = voting(sackedByAll(1), "1000*1000*1000", 0).and(premium(3, 1_000_000));
        for (int member = 0; member < 20; member++) {
            y.due(coins(member), 50_000);
        }
        y.make(premium(3, 999_999));
        for (int member = 0; member < 20; member++) {
            y.due(coins(member), member < 19 ? 100_000 : 99_999);
        }
        // 1,000,000,000 and 1: 999,999 with a rest of 999,000,001, and 0 with a rest of 1,000,000
        Yard two = voting(sacked(0, 2, 1, 1), "(g-1)*1000*1000*1000+2-g", 0);
        two.due(worth(0, 3, 0), 1_000_000_000);
        two.due(worth(0, 3, 1), 1);
        two.make(premium(3, 1_000_000));
        dueEntry(two, 0, 0, 0, 0, 1_000_000);
        dueEntry(two, 1, 0, 0, 1, 0);
        Yard grams = sacked(0, 500_000, 1, 500_000).and(premium(3, 999_999));
        dueEntry(grams, 0, 0, 0, 0, 500_000);
        dueEntry(grams, 1, 0, 0, 1, 499_999);
    }

    private static void premiumRestsInSixtyFourBits() {
        sentence("Terms: TO PART: those with the greatest rests, above 32 bits");
        int[] all = new int[40];
        for (int member = 0; member < 20; member++) {
            all[2 * member] = member;
            all[2 * member + 1] = member == 0 ? 1 : 2;
        }
        // rests are 4,000,000,000 of member 0 and 8,000,000,000 of each other
        Yard y = voting(sacked(all), "g*500*1000*1000", 0).and(premium(3, 8));
        for (int member = 0; member < 20; member++) {
            y.due(coins(member), member >= 1 && member <= 8 ? 1 : 0);
        }
    }

    private static final String TWO_TO_60 = "1024*1024*1024*1024*1024*1024";
    private static final String TWO_TO_64 = TWO_TO_60 + "*16";

    private static void premiumByAWrappedText() {
        sentence("Terms: worked in 64 bits, as measures");
        Yard y = voting(sacked(0, 1, 1, 3), TWO_TO_64 + "+4-g", 0).and(premium(3, 8));
        y.due(coins(0), 6);
        y.due(coins(1), 2);
        // 2^63 is below 0, and twice it is 0 with what is added
        Yard half = voting(sacked(0, 1, 1, 2), TWO_TO_60 + "*8*g+5", 0).and(premium(3, 8));
        half.due(worth(0, 3, 0), 0);
        half.due(worth(0, 3, 1), 5);
        half.due(coins(0), 0);
        half.due(coins(1), 8);
    }

    /** Vote 0 and vote 1 from day 0 on; a premium by g, one by vote 0, one by vote 1. */
    private static Yard threePremiums() {
        Yard y = sacked(0, 1, 1, 3).and(premium(3, 8));
        voting(y, "4-g", 0).make(premium(3, 8));
        return voting(y, "1", 0).and(premium(3, 8));
    }

    private static void unvoteNumbers() {
        sentence("Promise 13: no such VOTE");
        new Yard().refusesAll(unvote(0), unvote(-1), unvote(49), unvote(LEAST), unvote(MOST));
        Yard y = threePremiums();
        y.would(unvote(0), 2);
        y.would(unvote(1), 2);
        for (int other : join(FAR, -1, 2, 49, 50)) {
            y.refuses(unvote(other));
        }
    }

    private static void unvoteTwice() {
        sentence("Promise 13: or it was");
        Yard y = threePremiums();
        y.due(unvote(1), 2);
        y.refuses(unvote(1));
        y.due(unvote(0), 4);
        y.refusesAll(unvote(0), unvote(1), unvote(2));
        y.due(voted(0, 1), 1);
        y.due(voted(1, 1), 1);
        Yard idle = voting(new Yard(), "g", 0);
        idle.due(unvote(0), 0);
        idle.refuses(unvote(0));
    }

    private static void unvoteFifty() {
        sentence("Promise 13: no such VOTE, of 50");
        Yard y = sacked(0, 1, 1, 3);
        for (int i = 0; i < 50; i++) {
            voting(y, "" + (i + 1), 0);
        }
        y.make(premium(3, 8));
        y.would(unvote(0), 0);
        y.due(unvote(49), 0);
        y.due(voted(48, 2), 1);
        y.refusesAll(unvote(49), unvote(50), unvote(-1));
        for (int i = 48; i > 0; i--) {
            y.due(unvote(i), 0);
        }
        y.due(voted(0, 2), 1);
        y.due(unvote(0), 2);
        y.due(coins(0), 2);
        y.refuses(unvote(0));
    }

    private static void unvoteNothing() {
        sentence("Promise 13: how many ENTRIES that made, of a VOTE on which nothing hung");
        Yard y = voting(threePremiums(), "g*g", 5);
        y.due(unvote(2), 0);
        y.due(count(4), 6);
        voting(y, "g*g", 0);
        y.due(unvote(3), 0);
        y.due(count(4), 6);
        Yard none = voting(new Yard(), "g", 0);
        none.due(unvote(0), 0);
    }

    private static void unvoteJustWhatHung() {
        sentence("Terms: each PREMIUM that was PARTED by it, and no other");
        Yard y = threePremiums();
        y.due(coins(0), 2 + 6 + 4);
        y.due(unvote(0), 2);
        dueEntry(y, 6, 0, 1, 0, -2);
        dueEntry(y, 7, 0, 1, 1, 2);
        y.due(coins(0), 2 + 4 + 4);
        y.due(coins(1), 6 + 4 + 4);
        y.due(voted(1, 2), 2);
        y.due(unvote(1), 4);
        y.due(coins(0), 2 + 2 + 2);
        y.due(coins(1), 6 + 6 + 6);
        y.due(count(9), 24);
    }

    private static void unvoteForItsDay() {
        sentence("Terms: PARTED anew by the TEXT that is IN FORCE for its DAY then");
        Yard y = voting(voting(sacked(0, 1, 1, 3), "4-g", 0), "1", 0).and(premium(3, 8));
        y.make(day(0, false));
        voting(y, "(g-1)*8", 1);
        y.due(unvote(1), 2);
        y.due(coins(0), 6);
        y.due(voted(2, 2), 0);
        y.due(voted(0, 2), 1);
        y.due(unvote(0), 2);
        y.due(coins(0), 2);
        y.due(unvote(2), 0);
    }

    private static void unvoteByALaterVote() {
        sentence("Terms: PARTED anew by the TEXT that is IN FORCE then, told behind the PREMIUM");
        Yard y = voting(sacked(0, 1, 1, 3), "1", 0).and(premium(3, 8));
        voting(y, "4-g", 0);
        y.due(coins(0), 4);
        y.due(unvote(0), 2);
        y.due(coins(0), 6);
        y.due(voted(1, 2), 1);
        Yard early = voting(sacked(0, 1, 1, 3).and(day(0, false)), "1", 1).and(premium(3, 8));
        voting(voting(early, "4-g", 0), "g*0+7", 2);
        early.due(unvote(0), 2);
        early.due(voted(1, 2), 1);
        early.due(voted(2, 2), 0);
        early.due(coins(0), 6);
    }

    private static void unvoteAtLast() {
        sentence("Terms: PARTED by it (at last)");
        Yard y = voting(sacked(0, 1, 1, 3), "4-g", 0);
        voting(voting(y, "1", 0), "g*g", 0).make(premium(3, 80));
        y.due(coins(0), 8);
        y.due(unvote(1), 0);
        y.due(voted(2, 2), 1);
        y.due(unvote(2), 2);
        y.due(voted(0, 2), 1);
        y.due(voted(1, 2), 0);
        y.due(coins(0), 60);
        y.refusesAll(unvote(2), unvote(1));
        y.due(unvote(0), 2);
        y.due(coins(0), 20);
        y.due(count(4), 6);
    }

    private static void unvoteInOrder() {
        sentence("Terms: in order; for each MEMBER in it whose coins change there is an ENTRY of the difference");
        Yard y = sacked(5, 1, 2, 3, 19, 4).and(premium(3, 80));
        voting(y, "1", 0).and(premium(3, 24), premium(3, 48));
        y.due(unvote(0), 6);
        int[] members = {2, 5, 19};
        int[] by = {9 - 8, 3 - 8, 12 - 8};
        for (int i = 0; i < 3; i++) {
            dueEntry(y, 9 + i, 0, 1, members[i], by[i]);
            dueEntry(y, 12 + i, 0, 2, members[i], 2 * by[i]);
        }
        y.due(count(4), 15);
    }

    private static void unvoteUnchanged() {
        sentence("Terms: for each MEMBER whose coins change, and no other");
        Yard same = voting(sacked(0, 1, 1, 3), "g*2", 0).and(premium(3, 8));
        same.due(unvote(0), 0);
        same.due(count(4), 2);
        same.due(voted(0, 2), 0);
        Yard y = voting(sacked(0, 1, 1, 2, 2, 3), "4-g", 0).and(premium(3, 60));
        y.due(coins(0), 30);
        y.due(coins(1), 20);
        y.due(unvote(0), 2);
        y.due(count(4), 5);
        dueEntry(y, 3, 0, 0, 0, -20);
        dueEntry(y, 4, 0, 0, 2, 20);
        Yard one = voting(sacked(8, 5), "1", 0).and(premium(3, 60));
        one.due(unvote(0), 0);
    }

    private static void unvoteSackForEver() {
        sentence("Terms: what the SACK is then counts for ever");
        Yard y = mixed(3, 0, 1, 1, 3).and(cut(3, 100, 0, 0));
        voting(voting(y, "g+q", 0), "1", 0).make(premium(3, 100));
        y.due(cut(3, 0, 0, 0), 2);
        y.make(premium(3, 100));
        y.due(unvote(1), 4);
        dueEntry(y, 4, 0, 0, 0, 40 - 50);
        dueEntry(y, 5, 0, 0, 1, 60 - 50);
        // (1 + 2) and (3 + 2) of 8: 37 rest 4 and 62 rest 4
        dueEntry(y, 6, 0, 1, 0, 38 - 50);
        dueEntry(y, 7, 0, 1, 1, 62 - 50);
    }

    private static void unvoteTheMost() {
        sentence("Promise 13: how many ENTRIES that made, of 50 VOTES and 100 PREMIUMS for 20 MEMBERS");
        int[] all = new int[40];
        for (int member = 0; member < 20; member++) {
            all[2 * member] = member;
            all[2 * member + 1] = 1000 + member;
        }
        Yard y = sacked(all);
        for (int i = 0; i < 50; i++) {
            voting(y, i % 2 == 0 ? "1019-g" : "g-1000", 0);
        }
        for (int i = 0; i < 100; i++) {
            y.due(premium(3, 1_000_000), i);
        }
        for (int i = 49; i >= 0; i--) {
            y.due(unvote(i), 2000);
        }
        y.due(count(4), 102_000);
        y.due(entry(101_999, 1), 99);
        y.due(entry(101_999, 2), 19);
        y.due(entry(102_000, 1), 0);
        long sum = 0;
        for (int member = 0; member < 20; member++) {
            sum += y.make(coins(member));
        }
        Due.due("coins of all", sum, 100_000_000);
        y.due(count(9), 100_000_000);
    }

    private static void coinsBounds() {
        sentence("Promise 17: coins of a MEMBER by all ENTRIES, 0 for others");
        Yard y = sacked(0, 1, 39, 3).and(premium(3, 8), premium(3, 4));
        y.due(coins(0), 3);
        y.due(coins(19), 9);
        y.due(coins(1), 0);
        y.due(coins(18), 0);
        for (int other : join(FAR, -1, 20, 21, 39)) {
            y.due(coins(other), 0);
        }
        y.changesNothing(coins(0), 3);
        y.changesNothing(coins(20), 0);
    }

    private static void entryBounds() {
        sentence("Promise 18: 0 without, or for others");
        Yard none = new Yard();
        for (int what = -1; what <= 4; what++) {
            none.due(entry(0, what), 0);
            none.due(entry(-1, what), 0);
        }
        Yard y = sacked(18, 1, 19, 3).and(day(0, false), premium(3, 4), premium(3, 8));
        dueEntry(y, 0, 1, 0, 18, 1);
        dueEntry(y, 3, 1, 1, 19, 6);
        for (int what = 0; what < 4; what++) {
            for (int other : join(FAR, -1, 4, 5)) {
                y.due(entry(other, what), 0);
            }
        }
        for (int other : join(FAR, -1, 4, 5)) {
            for (int i = 0; i < 4; i++) {
                y.due(entry(i, other), 0);
            }
        }
        y.changesNothing(entry(0, 3), 1);
        y.changesNothing(entry(4, 0), 0);
        y.changesNothing(entry(0, 4), 0);
    }

    private static void entryBehindTheLast() {
        sentence("Promise 18: 0 without: behind the last ENTRY, however many there are");
        Yard y = sacked(19, 1).and(day(0, false));
        for (int i = 0; i < 100; i++) {
            y.due(entry(i, 2), 0);
            y.due(entry(i, 3), 0);
            y.due(premium(3, 5), i);
            y.due(entry(i, 2), 19);
        }
        y.due(entry(100, 2), 0);
        Yard all = sackedByAll(1);
        for (int i = 0; i < 100; i++) {
            all.make(premium(3, 20));
            all.due(entry(20 * i + 19, 3), 1);
            all.due(entry(20 * i + 20, 3), 0);
        }
    }

    private static void votedBounds() {
        sentence("Promise 21: NONE for others");
        Yard none = new Yard();
        for (int what = -1; what <= 3; what++) {
            none.due(voted(0, what), NONE);
            none.due(voted(-1, what), NONE);
        }
        Yard y = voting(threePremiums(), "g", 10_000).and(unvote(1));
        int[][] wants = {{0, 0, 2}, {0, 1, 0}, {10_000, 0, 0}};
        for (int vote = 0; vote < 3; vote++) {
            for (int what = 0; what < 3; what++) {
                y.due(voted(vote, what), wants[vote][what]);
            }
            for (int other : join(FAR, -1, 3, 4)) {
                y.due(voted(vote, other), NONE);
            }
        }
        for (int other : join(FAR, -1, 3, 49, 50)) {
            for (int what = 0; what < 3; what++) {
                y.due(voted(other, what), NONE);
            }
        }
        y.changesNothing(voted(0, 2), 2);
        y.changesNothing(voted(3, 0), NONE);
        y.changesNothing(voted(0, 3), NONE);
    }

    private static void votedPremiums() {
        sentence("Promise 21: 2 how many PREMIUMS were PARTED by it at last");
        Yard y = voting(sacked(0, 1, 1, 3), "1", 0);
        for (int i = 0; i < 100; i++) {
            y.due(voted(0, 2), i);
            y.make(premium(3, 2));
        }
        y.due(voted(0, 2), 100);
        voting(y, "p", 0);
        y.due(unvote(0), 0);
        y.due(voted(0, 2), 0);
        y.due(voted(1, 2), 100);
        y.make(unvote(1));
        y.due(voted(1, 2), 0);
    }
}
