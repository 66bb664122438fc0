import java.util.NoSuchElementException;
import java.util.function.Consumer;

/** What a call does with the least and the greatest that it takes, promise by promise, and on either side of an edge. */
public final class EdgesTest {
    private static final Check CHECK = new Check();
    private static final Trace TRACE = new Trace(CHECK);
    private static final Class<IllegalArgumentException> ARGUMENT = IllegalArgumentException.class;
    private static final Class<UnsupportedOperationException> UNSUPPORTED = UnsupportedOperationException.class;
    private static final Class<NoSuchElementException> NO_ELEMENT = NoSuchElementException.class;

    public static void main(String[] args) {
        leastAndGreatestTax();
        firstAndLastEndOfRights();
        leastAndGreatestShare();
        firstAndLastDayOfAShare();
        leastAndGreatestPart();
        sumOfPartsUpToAHundred();
        withinItself();
        daysOfAContract();
        landsOfAContract();
        leastAndGreatestPartOfAContract();
        leastAndGreatestAdvance();
        leastAndGreatestClaim();
        firstAndLastDayOfAClaim();
        decidedOnce();
        whoHasLess();
        leastAndGreatestRate();
        ratesOfKindsAndLands();
        leastAndGreatestAmount();
        leastAndGreatestText();
        knownByATitle();
        placesOfAChain();
        longestChain();
        paidOrNot();
        statementsOfPeriods();
        recoupedOrNot();
        bitsAtTheEdges();
        CHECK.end();
    }

    private static void is(String what, long got, long due) {
        CHECK.is(what, got, due);
    }

    private static void is(String what, boolean got, boolean due) {
        CHECK.is(what, got, due);
    }

    private static int words(int... words) {
        return Houses.words(words);
    }

    private static int radio(House x, int coins, int day) {
        return Houses.radio(x, coins, day);
    }

    // ---- hands and works

    /** One hand that has all of work 0, by whose use some coins were paid. */
    private static House taxed(boolean isSociety, int tax, int coins) {
        House x = new House();
        x.addHand(isSociety, tax);
        x.addWork(1000);
        x.setShare(0, 0, 100, 0);
        x.nameOf(0, words(1));
        x.tariff('r', 0, 1);
        radio(x, coins, 0);
        x.period();
        return x;
    }

    private static void leastAndGreatestTax() {
        is("2: tax 0 of the most", taxed(false, 0, 1000000).tax(0), 0);
        is("2: tax 0 leaves all", taxed(false, 0, 1000000).account(0), 1000000);
        is("2: tax 1 of 99, cut", taxed(false, 1, 99).tax(0), 0);
        is("2: tax 1 of 100", taxed(false, 1, 100).tax(0), 1);
        is("2: tax 1 of 199, cut", taxed(false, 1, 199).tax(0), 1);
        is("2: tax 50 of 1, cut", taxed(false, 50, 1).tax(0), 0);
        is("2: tax 50 of 2", taxed(false, 50, 2).tax(0), 1);
        is("2: tax 50 leaves half", taxed(false, 50, 1000000).account(0), 500000);
        is("2: a society keeps nothing to be taxed", taxed(true, 50, 1000000).tax(0), 0);
    }

    /** What hand 0 gets on a day by a use of 10 coins of a work whose rights end on another one. */
    private static long sharedOn(int day, int ends) {
        House x = Houses.withHands(1);
        x.addWork(ends);
        x.setShare(0, 0, 100, 0);
        x.nameOf(0, words(1));
        x.tariff('r', 0, 1);
        int use = radio(x, 10, day);
        is("3: what is not shared is open", x.open(use), 10 - x.share(use, 0));
        return x.share(use, 0);
    }

    private static void firstAndLastEndOfRights() {
        is("3: ends 1, on day 0", sharedOn(0, 1), 10);
        is("3: ends 1, on day 1", sharedOn(1, 1), 0);
        is("3: ends 1, on day 999", sharedOn(999, 1), 0);
        is("3: ends 1000, on day 0", sharedOn(0, 1000), 10);
        is("3: ends 1000, on day 999", sharedOn(999, 1000), 10);
        is("3: ends 999, on day 998", sharedOn(998, 999), 10);
        is("3: ends 999, on day 999", sharedOn(999, 999), 0);
        is("3: ends 500, on day 499", sharedOn(499, 500), 10);
        is("3: ends 500, on day 500", sharedOn(500, 500), 0);
        is("3: ends 500, on day 501", sharedOn(501, 500), 0);
    }

    private static void leastAndGreatestShare() {
        House x = Houses.withHands(2);
        x.addWork(1000);
        x.nameOf(0, words(1));
        x.tariff('r', 0, 1);
        int few = radio(x, 99, 0);
        int more = radio(x, 100, 0);
        is("4: share 100", x.setShare(0, 0, 100, 0), 100);
        is("4: share 100 of 99", x.share(few, 0), 99);
        is("4: share 100 leaves nothing open", x.open(few), 0);
        is("4: share 0 beside it", x.setShare(0, 1, 0, 0), 100);
        is("4: share 0 is not in dispute", x.isDisputed(0, 0), false);
        is("4: share 0 of 99", x.share(few, 1), 0);
        is("4: share 1 in its place", x.setShare(0, 0, 1, 0), 1);
        is("4: share 1 of 99, cut", x.share(few, 0), 0);
        is("4: which leaves all open", x.open(few), 99);
        is("4: share 1 of 100", x.share(more, 0), 1);
        is("4: share 99 in its place", x.setShare(0, 0, 99, 0), 99);
        is("4: share 99 of 99, cut", x.share(few, 0), 98);
        is("4: share 0 in its place", x.setShare(0, 0, 0, 0), 0);
        is("4: share 0 of 100", x.share(more, 0), 0);
    }

    private static void firstAndLastDayOfAShare() {
        House x = Houses.withHands(16);
        x.addWork(1000);
        is("4: day 999", x.setShare(0, 0, 7, 999), 7);
        is("28: day 998, ahead of it", x.shareOn(0, 0, 998), 0);
        is("28: day 999", x.shareOn(0, 0, 999), 7);
        is("28: day 0, ahead of it", x.shareOn(0, 0, 0), 0);
        is("4: day 0, without what comes later", x.setShare(0, 1, 5, 0), 5);
        is("28: day 0", x.shareOn(0, 1, 0), 5);
        is("28: day 1", x.shareOn(0, 1, 1), 5);
        is("28: day 999 of what was set for day 0", x.shareOn(0, 1, 999), 5);
        is("4: day 999 with what was set for day 0", x.setShare(0, 0, 8, 999), 13);
        for (int hand = 0; hand < 16; hand++) {
            x.setShare(0, hand, 100, 500);
        }
        is("4: the most of 16 hands together", x.setShare(0, 15, 100, 500), 1600);
        is("4: but for the last hand", x.setShare(0, 15, 0, 500), 1500);
        is("4: but for the first hand", x.setShare(0, 0, 0, 500), 1400);
    }

    private static void leastAndGreatestPart() {
        House x = Houses.withHands(2);
        x.addWork(1000);
        x.addWork(1000);
        x.setShare(0, 0, 100, 0);
        x.setShare(1, 1, 100, 0);
        x.nameOf(0, words(1));
        x.tariff('r', 0, 1);
        int few = radio(x, 99, 0);
        int more = radio(x, 100, 0);
        is("5: part 0", x.setPart(0, 1, 0), 0);
        is("5: part 0 leaves all", x.share(few, 0), 99);
        is("5: part 1", x.setPart(0, 1, 1), 1);
        is("5: part 1 of 99, cut", x.share(few, 1), 0);
        is("5: what is cut stays with the work", x.share(few, 0), 99);
        is("5: part 1 of 100", x.share(more, 1), 1);
        is("5: and what is left of it", x.share(more, 0), 99);
        is("5: part 99", x.setPart(0, 1, 99), 99);
        is("5: part 99 of 99, cut", x.share(few, 1), 98);
        is("5: part 100", x.setPart(0, 1, 100), 100);
        is("5: part 100 of 99", x.share(few, 1), 99);
        is("5: part 100 leaves nothing", x.share(few, 0), 0);
        is("5: part 0 in its place", x.setPart(0, 1, 0), 0);
        is("5: part 0 of 100", x.share(more, 1), 0);
    }

    private static void sumOfPartsUpToAHundred() {
        Consumer<House> twoParts = x -> {
            x.setPart(1, 2, 60);
            x.setPart(1, 3, 39);
        };
        Houses.SetUp setUp = Houses.FILLED.with(", two parts", twoParts);
        is("5: a sum of 100", setUp.make().setPart(1, 3, 40), 100);
        is("5: a sum of 99", setUp.make().setPart(1, 3, 39), 99);
        TRACE.refused("5: a sum of 101", setUp, UNSUPPORTED, x -> x.setPart(1, 3, 41));
        TRACE.refused("5: a sum of 160", setUp, UNSUPPORTED, x -> x.setPart(1, 3, 100));
        is("5: a third part up to 100", setUp.make().setPart(1, 0, 1), 100);
        TRACE.refused("5: a third part past 100", setUp, UNSUPPORTED, x -> x.setPart(1, 0, 2));
        TRACE.refused("5: a third part far past 100", setUp, UNSUPPORTED, x -> x.setPart(1, 0, 100));
        is("5: a part of nothing beside", setUp.make().setPart(1, 0, 0), 99);
        House x = setUp.make();
        is("5: a part in place of its own", x.setPart(1, 2, 61), 100);
        is("5: a smaller one", x.setPart(1, 2, 1), 40);
        is("5: none of both", x.setPart(1, 2, 0) + x.setPart(1, 3, 0), 39);
        is("5: all alone", x.setPart(1, 2, 100), 100);
        is("5: parts of another work do not count", x.setPart(3, 2, 100), 100);
        is("5: a part of the lowest work", x.setPart(2, 0, 0) + x.setPart(3, 0, 0), 100);
        House lowest = setUp.make();
        is("5: the lowest work within counts", lowest.setPart(3, 0, 30), 30);
        is("5: beside another one", lowest.setPart(3, 2, 70), 100);
        CHECK.refused("5: past 100 with the lowest one", UNSUPPORTED, () -> lowest.setPart(3, 2, 71));
        House all = new House();
        Houses.fillWorks(all);
        for (int i = 0; i < 4; i++) {
            all.addWork(1000);
        }
        for (int inner = 1; inner < 20; inner++) {
            is("5: nineteen parts", all.setPart(0, inner, 5), 5 * inner);
        }
        is("5: nineteen parts up to 100", all.setPart(0, 19, 10), 100);
        CHECK.refused("5: nineteen parts past 100", UNSUPPORTED, () -> all.setPart(0, 1, 6));
        is("5: they are as they were", all.setPart(0, 1, 5), 100);
    }

    private static void withinItself() {
        TRACE.refused("5: part 1 of itself", UNSUPPORTED, x -> x.setPart(1, 1, 1));
        TRACE.refused("5: part 100 of itself", UNSUPPORTED, x -> x.setPart(1, 1, 100));
        TRACE.refused("5: the lowest work of itself", UNSUPPORTED, x -> x.setPart(0, 0, 1));
        TRACE.refused("5: the highest work of itself", UNSUPPORTED, x -> x.setPart(3, 3, 1));
        TRACE.refused("5: round by another work", UNSUPPORTED, x -> x.setPart(2, 0, 1));
        Houses.SetUp three = Houses.FILLED.with(", a work in a work in a work", x -> x.setPart(2, 1, 1));
        TRACE.refused("5: round by two others", three, UNSUPPORTED, x -> x.setPart(1, 0, 1));
        TRACE.refused("5: round from the middle", three, UNSUPPORTED, x -> x.setPart(1, 2, 1));
        is("5: the same way once more is not round", three.make().setPart(0, 1, 80), 100);
        is("5: a work beside is not round", three.make().setPart(3, 0, 100), 100);
        is("5: nor in it", three.make().setPart(1, 3, 100), 100);
        Houses.SetUp cut = three.with(", of which one was taken out", x -> x.setPart(2, 1, 0));
        is("5: what was within no longer is", cut.make().setPart(1, 0, 100), 100);
        Houses.SetUp row = new Houses.SetUp("a row of 20 works", 0, 20, 0, x -> {
            for (int work = 0; work < 20; work++) {
                x.addWork(1000);
            }
            for (int work = 0; work < 19; work++) {
                x.setPart(work, work + 1, 100);
            }
        });
        TRACE.refused("5: round by 19 others", row, UNSUPPORTED, x -> x.setPart(19, 0, 1));
        for (int work = 1; work < 19; work++) {
            int to = work;
            TRACE.refused("5: round from the last to work " + work, row, UNSUPPORTED, x -> x.setPart(19, to, 1));
        }
        House lowest = new House();
        for (int work = 0; work < 3; work++) {
            lowest.addWork(1000);
        }
        lowest.setPart(1, 0, 10);
        CHECK.refused("5: round by the lowest work", UNSUPPORTED, () -> lowest.setPart(0, 1, 10));
        lowest.setPart(0, 2, 10);
        CHECK.refused("5: round through the lowest work", UNSUPPORTED, () -> lowest.setPart(2, 1, 10));
        is("5: no longer through it", lowest.setPart(1, 0, 0), 0);
        is("5: so that it may be", lowest.setPart(2, 1, 10), 10);
        CHECK.refused("5: but then not the other way", UNSUPPORTED, () -> lowest.setPart(1, 0, 10));
        is("5: a part of nothing is not within", lowest.setPart(1, 0, 0), 0);
        House deep = row.make();
        deep.addHand(false, 0);
        deep.setShare(19, 0, 100, 0);
        deep.nameOf(0, words(1));
        deep.tariff('r', 0, 1);
        is("5: through 20 works", deep.share(radio(deep, 77, 0), 0), 77);
    }

    // ---- contracts and advances

    /** What goes on to hand 1 of a use of 100 coins on a day, by half of a contract in land 0. */
    private static long handedOn(int day, int from, int till) {
        House x = Houses.withOneWork(2);
        x.assign(0, 1, 0, 50, from, till);
        return x.gets(radio(x, 100, day), 1);
    }

    private static void daysOfAContract() {
        is("6: day 0 of 0 to 0", handedOn(0, 0, 0), 50);
        is("6: day 1 of 0 to 0", handedOn(1, 0, 0), 0);
        is("6: day 998 of 999 to 999", handedOn(998, 999, 999), 0);
        is("6: day 999 of 999 to 999", handedOn(999, 999, 999), 50);
        is("6: day 0 of 0 to 999", handedOn(0, 0, 999), 50);
        is("6: day 999 of 0 to 999", handedOn(999, 0, 999), 50);
        is("6: day 4 of 5 to 6", handedOn(4, 5, 6), 0);
        is("6: day 5 of 5 to 6", handedOn(5, 5, 6), 50);
        is("6: day 6 of 5 to 6", handedOn(6, 5, 6), 50);
        is("6: day 7 of 5 to 6", handedOn(7, 5, 6), 0);
        is("6: day 5 of 5 to 5", handedOn(5, 5, 5), 50);
        TRACE.refused("6: the last day just ahead of the first", ARGUMENT, x -> x.assign(0, 1, 0, 1, 5, 4));
        TRACE.refused("6: the last day far ahead of the first", ARGUMENT, x -> x.assign(0, 1, 0, 1, 999, 0));
        TRACE.refused("6: day 0 ahead of day 1", ARGUMENT, x -> x.assign(0, 1, 0, 1, 1, 0));
        for (int hand = 0; hand < 5; hand++) {
            int same = hand;
            TRACE.refused("6: hand " + hand + " to itself", ARGUMENT, x -> x.assign(same, same, 0, 1, 0, 999));
        }
    }

    private static void landsOfAContract() {
        for (int land = 0; land < 3; land++) {
            House x = Houses.withOneWork(2);
            is("6: one contract", x.assign(0, 1, land, 100, 0, 999), 1);
            for (int other = 0; other < 3; other++) {
                x.tariff('r', other, 1);
                int use = x.use('r', other, words(1), 8, 3);
                is("6: land " + land + " in land " + other, x.gets(use, 1), land == other ? 8 : 0);
            }
        }
    }

    private static void leastAndGreatestPartOfAContract() {
        House x = Houses.withOneWork(3);
        x.assign(0, 1, 0, 1, 0, 999);
        int few = radio(x, 99, 0);
        int more = radio(x, 100, 0);
        is("6: part 1 of 99, cut", x.gets(few, 1), 0);
        is("6: which leaves all", x.gets(few, 0), 99);
        is("6: part 1 of 100", x.gets(more, 1), 1);
        is("6: and what is left", x.gets(more, 0), 99);
        x.assign(0, 2, 0, 100, 0, 999);
        is("6: part 100 of what is left", x.gets(more, 2), 99);
        is("6: part 100 leaves nothing", x.gets(more, 0), 0);
        x.assign(0, 1, 0, 100, 0, 999);
        is("6: part 100 of nothing", x.gets(more, 1), 1);
        is("6: the sum stays", x.gets(more, 0) + x.gets(more, 1) + x.gets(more, 2), 100);
    }

    private static void leastAndGreatestAdvance() {
        House x = Houses.withOneWork(3);
        x.assign(0, 1, 2, 1, 0, 0);
        x.assign(2, 1, 2, 1, 0, 0);
        is("7: money 1", x.advance(0, 1), 1);
        is("7: money 100000", x.advance(0, 100000), 100001);
        for (int i = 2; i <= 100; i++) {
            is("7: and again", x.advance(0, 100000), 100000 * i + 1);
        }
        is("22: ten millions and one", x.notRecouped(0), 10000001);
        is("22: nothing of the other contract", x.notRecouped(1), 0);
        is("20: on the account of the hand", x.account(0), 10000001);
        is("20: taken from that of the other one", x.account(1), -10000001);
        is("20: the third hand has nothing", x.account(2), 0);
        is("21: an advance is not taxed", x.tax(0) + x.tax(1), 0);
    }

    // ---- claims

    private static void leastAndGreatestClaim() {
        for (int share : new int[] {1, 100}) {
            House x = Houses.withHands(2);
            x.addWork(1000);
            is("8: share " + share, x.claim(0, 1, share, 0), 0);
            is("28: not registered yet", x.shareOn(0, 1, 0), 0);
            is("29: in dispute", x.isDisputed(0, 0), true);
            x.decide(0, true);
            is("28: as decided", x.shareOn(0, 1, 0), share);
            is("28: of nobody else", x.shareOn(0, 0, 0), 0);
            is("29: no longer in dispute", x.isDisputed(0, 0), false);
        }
    }

    private static void firstAndLastDayOfAClaim() {
        House x = Houses.withHands(1);
        x.addWork(1000);
        x.addWork(1000);
        x.claim(0, 0, 5, 0);
        x.claim(1, 0, 6, 999);
        is("29: from day 0 on", x.isDisputed(0, 0), true);
        is("29: up to the last day", x.isDisputed(0, 999), true);
        is("29: day 998, ahead of day 999", x.isDisputed(1, 998), false);
        is("29: day 999", x.isDisputed(1, 999), true);
        x.decide(0, true);
        x.decide(1, true);
        is("28: decided from day 0 on", x.shareOn(0, 0, 0), 5);
        is("28: up to the last day", x.shareOn(0, 0, 999), 5);
        is("28: day 998, ahead of what was decided", x.shareOn(1, 0, 998), 0);
        is("28: day 999, decided", x.shareOn(1, 0, 999), 6);
        is("29: neither is in dispute", x.isDisputed(0, 999) || x.isDisputed(1, 999), false);
    }

    private static void decidedOnce() {
        for (boolean first : new boolean[] {true, false}) {
            Houses.SetUp setUp = Houses.FILLED.with(", the first claim decided", x -> x.decide(0, first));
            TRACE.refused("9: decided " + first + ", then that it holds", setUp, UNSUPPORTED, x -> x.decide(0, true));
            TRACE.refused("9: decided " + first + ", then that it falls", setUp, UNSUPPORTED, x -> x.decide(0, false));
            is("9: the last claim can be decided", setUp.make().decide(2, true), false);
        }
        House x = Houses.withOneWork(2);
        x.claim(0, 1, 30, 0);
        x.decide(0, true);
        x.setShare(0, 1, 4, 0);
        CHECK.refused("9: twice", UNSUPPORTED, () -> x.decide(0, true));
        is("28: the second time sets nothing", x.shareOn(0, 1, 0), 4);
    }

    private static void whoHasLess() {
        House x = Houses.withOneWork(2);
        is("9: nobody has less without any use", x.decide(x.claim(0, 1, 100, 0), false), false);
        radio(x, 10, 5);
        x.period();
        int claim = x.claim(0, 1, 50, 0);
        is("20: nothing in dispute", x.account(0), 0);
        is("9: less than ahead of the claim is not less by the decision", x.decide(claim, true), false);
        is("20: more than 100 together stay in dispute", x.account(0) + x.account(1), 0);
        x.setShare(0, 0, 50, 0);
        is("20: half", x.account(0), 5);
        is("9: a claim from the day behind the use takes nothing", x.decide(x.claim(0, 0, 1, 6), true), false);
        is("20: all is as it was", x.account(0), 5);
        for (int[] pair : new int[][] {{0, 15}, {15, 0}, {7, 8}}) {
            House owed = owedInTwo(pair[0], pair[1]);
            is("9: hand " + pair[1] + " has less", owed.decide(0, false), true);
            is("20: by one coin", owed.account(pair[1]), -1);
            is("9: nobody has if it stays in dispute", owedInTwo(pair[0], pair[1]).decide(0, true), false);
        }
    }

    /**
     * A hand with tax 50 is owed 2 coins by another one, that pays them back by two uses of work 1, so that nothing is
     * withheld of each; once a claim falls, the use of work 0 pays back both at once, and one of them is withheld.
     */
    private static House owedInTwo(int debtor, int taxed) {
        House x = new House();
        for (int hand = 0; hand < 16; hand++) {
            x.addHand(false, hand == taxed ? 50 : 0);
        }
        for (int work = 0; work < 2; work++) {
            x.addWork(1000);
            x.setShare(work, debtor, 100, 0);
            x.nameOf(work, words(work + 1));
        }
        x.assign(debtor, taxed, 2, 1, 0, 0);
        x.advance(0, 2);
        x.tariff('r', 0, 1);
        x.use('r', 0, words(1), 2, 5);
        x.use('r', 0, words(2), 1, 5);
        x.use('r', 0, words(2), 1, 5);
        x.claim(0, taxed, 1, 0);
        x.period();
        is("20: lent and paid back, and nothing withheld", x.account(taxed), 0);
        return x;
    }

    // ---- tariffs and uses

    private static void leastAndGreatestRate() {
        House x = Houses.withOneWork(1);
        for (char kind : new char[] {'r', 'c', 's'}) {
            x.tariff(kind, 0, 0);
            is("15: rate 0, " + kind, x.gross(x.use(kind, 0, words(1), 1000000, 0)), 0);
            is("10: the rate before", x.tariff(kind, 0, 1), 0);
            is("10: 1 before", x.tariff(kind, 0, 1000), 1);
            is("10: 1000 before", x.tariff(kind, 0, 1000), 1000);
        }
        is("15: rate 1000, one minute", x.gross(x.use('r', 0, words(1), 1, 0)), 1000);
        is("15: rate 1000, one of takings", x.gross(x.use('c', 0, words(1), 1, 0)), 10);
        is("15: rate 1000, one stream", x.gross(x.use('s', 0, words(1), 1, 0)), 1);
        is("15: rate 1000, the most minutes", x.gross(x.use('r', 0, words(1), 1000000, 0)), 1000000000);
        is("15: rate 1000, the most takings", x.gross(x.use('c', 0, words(1), 1000000, 0)), 10000000);
        is("15: rate 1000, the most streams", x.gross(x.use('s', 0, words(1), 1000000, 0)), 1000000);
        is("16: all of it comes to the hand", x.share(6, 0), 1000000000);
        x.period();
        is("20: and to its account", x.account(0), 1000 + 10 + 1 + 1000000000 + 10000000 + 1000000);
    }

    private static void ratesOfKindsAndLands() {
        House x = Houses.withHands(0);
        String kinds = "rcs";
        for (int i = 0; i < 9; i++) {
            is("10: 10 at first", x.tariff(kinds.charAt(i % 3), i / 3, 100 + i), 10);
        }
        for (int i = 0; i < 9; i++) {
            char kind = kinds.charAt(i % 3);
            int most = 1000000;
            long due = kind == 'r' ? (100 + i) * 1000000L : kind == 'c' ? (100 + i) * 10000L : (100 + i) * 1000L;
            is("15: each kind and land by itself", x.gross(x.use(kind, i / 3, 0, most, 0)), due);
        }
        for (int i = 0; i < 9; i++) {
            is("10: the rate before, of kind and land", x.tariff(kinds.charAt(i % 3), i / 3, 7), 100 + i);
        }
        is("15: a use keeps the rate that it was told with", x.gross(0), 100000000);
        TRACE.refused("10: a refused rate does not count", ARGUMENT, y -> y.tariff('r', 0, 1001));
    }

    private static void leastAndGreatestAmount() {
        House x = Houses.withOneWork(1);
        x.tariff('r', 1, 10);
        is("15: one minute", x.gross(x.use('r', 1, words(1), 1, 0)), 10);
        is("15: takings of 9, cut", x.gross(x.use('c', 0, words(1), 9, 0)), 0);
        is("15: takings of 10", x.gross(x.use('c', 0, words(1), 10, 0)), 1);
        is("15: takings of 19, cut", x.gross(x.use('c', 0, words(1), 19, 0)), 1);
        is("15: takings of 20", x.gross(x.use('c', 0, words(1), 20, 0)), 2);
        is("15: 99 streams, cut", x.gross(x.use('s', 0, words(1), 99, 0)), 0);
        is("15: 100 streams", x.gross(x.use('s', 0, words(1), 100, 0)), 1);
        is("15: 199 streams, cut", x.gross(x.use('s', 0, words(1), 199, 0)), 1);
        is("15: 200 streams", x.gross(x.use('s', 0, words(1), 200, 0)), 2);
        x.tariff('s', 0, 999);
        is("15: rate times streams, divided once", x.gross(x.use('s', 0, words(1), 1001, 0)), 999);
        x.tariff('c', 0, 999);
        is("15: rate times takings, divided once", x.gross(x.use('c', 0, words(1), 101, 0)), 1008);
        is("16: nothing of nothing", x.share(1, 0), 0);
        is("18: nothing open of nothing", x.open(1), 0);
        CHECK.refused("26: no chain of nothing", NO_ELEMENT, () -> x.chain(1, 0));
    }

    private static void leastAndGreatestText() {
        House x = Houses.withOneWork(1);
        is("11: text 0", x.matched(x.use('r', 0, 0, 1, 0)), -1);
        is("12: title 0", x.nameOf(0, 0), 0);
        is("13: text 0 is not known by title 0", x.matched(0), -1);
        int most = x.use('r', 0, Houses.MAX, 1, 999);
        is("11: the greatest text", x.matched(most), -1);
        is("12: the greatest title", x.nameOf(0, Houses.MAX), 1);
        is("13: is known by it", x.matched(most), 0);
        is("14: all its words are alike", x.likeness(most, 0), 100);
        TRACE.refused("11: text -1", ARGUMENT, y -> y.use('r', 0, -1, 1, 0));
        TRACE.refused("12: title -1", ARGUMENT, y -> y.nameOf(0, -1));
    }

    private static void knownByATitle() {
        House x = Houses.withHands(0);
        x.addWork(1000);
        x.addWork(1000);
        is("12: no use is there", x.nameOf(0, words(1)), 0);
        for (int use = 0; use < 60; use++) {
            x.use('r', 0, use < 59 ? words(5) : words(6), 1, 0);
        }
        is("12: none of them is like that", x.nameOf(0, words(2)), 0);
        is("12: all but one", x.nameOf(0, words(5)), 59);
        is("12: the last one", x.nameOf(1, words(6)), 1);
        is("12: none is left", x.nameOf(1, words(5)), 0);
        is("13: known stays known", x.matched(0), 0);
        is("13: the last one by the second work", x.matched(59), 1);
    }

    // ---- chains, periods, what is recouped

    private static void placesOfAChain() {
        House x = Houses.withOneWork(4);
        x.assign(0, 1, 0, 50, 0, 999);
        x.assign(1, 2, 0, 50, 0, 999);
        int use = radio(x, 100, 0);
        is("26: one hand", x.chain(use, 0), 1);
        is("26: two hands", x.chain(use, 1), 2);
        is("26: three hands", x.chain(use, 2), 3);
        for (int hand = 0; hand < 3; hand++) {
            int end = hand;
            is("27: the hand of the share is first", x.chainAt(use, hand, 0), 0);
            is("27: the hand itself is last", x.chainAt(use, hand, hand), hand);
            CHECK.refused("27: behind the last", NO_ELEMENT, () -> x.chainAt(use, end, end + 1));
            CHECK.refused("27: ahead of the first", NO_ELEMENT, () -> x.chainAt(use, end, -1));
        }
        is("27: the one in between", x.chainAt(use, 2, 1), 1);
        CHECK.refused("26: a hand to which none comes", NO_ELEMENT, () -> x.chain(use, 3));
        CHECK.refused("27: nor is there a first place", NO_ELEMENT, () -> x.chainAt(use, 3, 0));
        int coin = radio(x, 1, 0);
        is("26: a coin that cannot be halved", x.chain(coin, 0), 1);
        CHECK.refused("26: goes no further", NO_ELEMENT, () -> x.chain(coin, 1));
    }

    /** Twelve contracts from hand to hand, and one hand and one coin more than they need. */
    private static void longestChain() {
        House x = Houses.withOneWork(16);
        for (int hand = 0; hand < 12; hand++) {
            x.assign(hand, hand + 1, 0, 100, 0, 999);
        }
        int use = radio(x, 1, 0);
        is("26: thirteen hands", x.chain(use, 12), 13);
        for (int place = 0; place < 13; place++) {
            is("27: place " + place, x.chainAt(use, 12, place), place);
        }
        CHECK.refused("27: place 13", NO_ELEMENT, () -> x.chainAt(use, 12, 13));
        CHECK.refused("26: those that hand on all keep nothing", NO_ELEMENT, () -> x.chain(use, 11));
        is("19: the last hand has the coin", x.gets(use, 12), 1);
        is("19: the one ahead of it has none", x.gets(use, 11), 0);
    }

    private static void paidOrNot() {
        House x = Houses.withOneWork(1);
        radio(x, 10, 0);
        CHECK.refused("24: not paid", NO_ELEMENT, () -> x.paidIn(0));
        is("23: one use", x.period(), 1);
        is("24: paid in period 0", x.paidIn(0), 0);
        is("23: none is left", x.period(), 0);
        is("24: paid once alone", x.paidIn(0), 0);
        radio(x, 10, 0);
        CHECK.refused("24: the next one is not paid", NO_ELEMENT, () -> x.paidIn(1));
        is("20: and does not count", x.account(0), 10);
        is("23: one use more", x.period(), 1);
        is("24: paid in period 2", x.paidIn(1), 2);
        is("20: and counts", x.account(0), 20);
        TRACE.refused("24: a use that was not paid", NO_ELEMENT, y -> y.paidIn(3));
    }

    private static void statementsOfPeriods() {
        House x = Houses.withOneWork(2);
        radio(x, 10, 0);
        x.period();
        is("25: the first period, 0 ahead of it", x.statement(0, 0), 10);
        x.period();
        is("25: a period without uses", x.statement(1, 0), 0);
        x.assign(0, 1, 0, 1, 999, 999);
        x.setShare(0, 0, 40, 0);
        is("25: a period that has ended stays", x.statement(0, 0) + x.statement(1, 0), 10);
        x.period();
        is("25: what was shared anew is told in the next one", x.statement(2, 0), -6);
        x.advance(0, 9);
        x.period();
        is("25: an advance, of which 4 are recouped at once", x.statement(3, 0), 5);
        is("25: taken from the other hand, and paid back to it", x.statement(3, 1), -5);
        is("25: the whole account", 10 + x.statement(1, 0) + x.statement(2, 0) + x.statement(3, 0), x.account(0));
    }

    private static void recoupedOrNot() {
        House x = Houses.withOneWork(2);
        x.assign(0, 1, 2, 1, 999, 999);
        x.advance(0, 10);
        radio(x, 9, 0);
        is("22: nothing is recouped by what was not paid", x.notRecouped(0), 10);
        x.period();
        is("22: one coin is left", x.notRecouped(0), 1);
        is("20: all goes to the other hand", x.account(0), 10);
        is("20: which has lent one coin", x.account(1), -1);
        radio(x, 1, 0);
        x.period();
        is("22: just recouped", x.notRecouped(0), 0);
        is("20: nothing is left of that use", x.account(0), 10);
        is("20: all was paid back", x.account(1), 0);
        radio(x, 1, 0);
        x.period();
        is("22: no more is recouped", x.notRecouped(0), 0);
        is("20: the next coin is its own", x.account(0), 11);
        is("20: and not the other one's", x.account(1), 0);
    }

    private static void bitsAtTheEdges() {
        House x = Houses.withOneWork(1);
        CHECK.refused("34: none", ArithmeticException.class, x::knownBits);
        CHECK.refused("35: none", ArithmeticException.class, x::meanBits);
        x.tariff('s', 0, 0);
        x.use('s', 0, words(2), 1, 0);
        is("34: none of one", x.knownBits(), 0);
        is("35: nothing of one use", x.meanBits(), 0L);
        x.nameOf(0, words(2));
        is("34: one of one", x.knownBits(), 0x3f800000);
        radio(x, 1, 0);
        is("35: one coin of two uses", x.meanBits(), 0x3fe0000000000000L);
        x.use('s', 0, words(3), 1, 0);
        is("34: two of three", x.knownBits(), Float.floatToIntBits(2f / 3f));
        is("35: one coin of three uses", x.meanBits(), Double.doubleToLongBits(1.0 / 3.0));
        radio(x, 2, 0);
        is("34: three of four", x.knownBits(), 0x3f400000);
        is("35: three coins of four uses", x.meanBits(), 0x3fe8000000000000L);
        TRACE.refused("34: no uses", Houses.EMPTY, ArithmeticException.class, House::knownBits);
        TRACE.refused("35: no uses", Houses.EMPTY, ArithmeticException.class, House::meanBits);
        most();
    }

    private static void most() {
        House x = Houses.withOneWork(1);
        x.tariff('r', 0, 1000);
        for (int use = 0; use < 60; use++) {
            radio(x, 1000000, 0);
        }
        is("34: sixty of sixty", x.knownBits(), 0x3f800000);
        is("35: sixty times the most", x.meanBits(), Double.doubleToLongBits(1e9));
        x.period();
        is("20: sixty times the most", x.account(0), 60000000000L);
        x.claim(0, 0, 1, 0);
        is("33: all of it is held", x.holds(), 60000000000L);
        x.decide(0, true);
        is("32: all but a hundredth is open", x.pot(), 59400000000L);
        x.setShare(0, 0, 0, 0);
        is("32: all of it is open", x.pot(), 60000000000L);
    }
}
