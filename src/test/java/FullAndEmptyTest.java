import java.util.NoSuchElementException;

/** What is full: its last place is as good as the others, and one more is refused. What is empty: each call on it. */
public final class FullAndEmptyTest {
    private static final Check CHECK = new Check();
    private static final Trace TRACE = new Trace(CHECK);
    private static final Class<IndexOutOfBoundsException> INDEX = IndexOutOfBoundsException.class;
    private static final Class<IllegalStateException> STATE = IllegalStateException.class;
    private static final Class<NoSuchElementException> NO_ELEMENT = NoSuchElementException.class;

    public static void main(String[] args) {
        sixteenHands();
        twentyWorks();
        twelveContracts();
        twentyClaims();
        sixtyUses();
        threeTitles();
        thirtyPeriods();
        allIsFull();
        asManyCallsAsArePromised();
        sharesOfAllHandsInAllWorks();
        newObject();
        withoutHandsOrWorks();
        withoutShares();
        withoutTitles();
        withoutContracts();
        withoutUses();
        withoutPeriods();
        withoutWords();
        CHECK.end();
    }

    private static void is(String what, long got, long due) {
        CHECK.is(what, got, due);
    }

    private static void is(String what, boolean got, boolean due) {
        CHECK.is(what, got, due);
    }

    private static int words(int... words) {
        return Houses.words(words);
    }

    // ---- full

    private static void sixteenHands() {
        House x = new House();
        for (int hand = 0; hand < 16; hand++) {
            is("2: its number", x.addHand(false, hand == 15 ? 50 : 0), hand);
        }
        CHECK.refused("2: a 17th hand", STATE, () -> x.addHand(false, 0));
        CHECK.refused("2: a 17th hand once more", STATE, () -> x.addHand(true, 50));
        CHECK.refused("20: which is not there", INDEX, () -> x.account(16));
        is("3: a work has its place", x.addWork(1000), 0);
        is("4: the last hand has a share", x.setShare(0, 15, 100, 0), 100);
        x.nameOf(0, words(1));
        x.assign(15, 0, 0, 50, 0, 999);
        x.assign(0, 15, 0, 100, 0, 999);
        is("7: and an advance", x.advance(0, 100), 100);
        int use = Houses.radio(x, 40, 0);
        x.period();
        is("16: money comes to it", x.share(use, 15), 400);
        is("19: it keeps some", x.gets(use, 15), 200);
        is("26: a chain of it", x.chain(use, 15), 1);
        is("27: ends with it", x.chainAt(use, 15, 0), 15);
        is("27: a chain that begins with it", x.chainAt(use, 0, 0), 15);
        is("20: 100 as an advance, 100 kept, half of them taxed", x.account(15), 150);
        is("21: half", x.tax(15), 50);
        is("25: its statement", x.statement(0, 15), 150);
        is("20: the first hand paid 100 and got 100 back", x.account(0), 200);
        x.claim(0, 15, 20, 0);
        x.decide(0, true);
        is("28: what was decided for it", x.shareOn(0, 15, 5), 20);
        TRACE.refused("2: a 17th hand of no tax", Houses.FULL_HANDS, STATE, y -> y.addHand(false, 0));
        TRACE.refused("2: a 17th hand, a society", Houses.FULL_HANDS, STATE, y -> y.addHand(true, 50));
    }

    private static void twentyWorks() {
        House x = Houses.withHands(1);
        for (int work = 0; work < 20; work++) {
            is("3: its number", x.addWork(work == 19 ? 500 : 1000), work);
            is("30: how many there are", x.works(), work + 1);
        }
        CHECK.refused("3: a 21st work", STATE, () -> x.addWork(1000));
        CHECK.refused("3: a 21st work once more", STATE, () -> x.addWork(1));
        is("30: there are twenty", x.works(), 20);
        CHECK.refused("29: the 21st is not there", INDEX, () -> x.isDisputed(20, 0));
        is("4: the last work has shares", x.setShare(19, 0, 60, 0), 60);
        is("5: it is in another one", x.setPart(18, 19, 50), 50);
        is("5: and has another one in it", x.setPart(19, 0, 10), 10);
        is("12: it has titles", x.nameOf(19, words(1)), 0);
        x.nameOf(18, words(2));
        is("13: by which uses are known", x.matched(x.use('r', 0, words(1), 10, 499)), 19);
        is("16: which are shared", x.share(0, 0), 54);
        is("16: from the day from which nobody has rights no more", x.share(x.use('r', 0, words(1), 10, 500), 0), 0);
        is("16: by what it is of another one", x.share(x.use('r', 0, words(2), 10, 0), 0), 27);
        is("14: how alike", x.likeness(0, 19), 100);
        x.claim(19, 0, 1, 7);
        is("29: it can be in dispute", x.isDisputed(19, 7), true);
        is("29: from a day on", x.isDisputed(19, 6), false);
        TRACE.refused("3: a 21st work until day 1000", Houses.FULL_WORKS, STATE, y -> y.addWork(1000));
        TRACE.refused("3: a 21st work until day 1", Houses.FULL_WORKS, STATE, y -> y.addWork(1));
    }

    private static void twelveContracts() {
        House x = Houses.withOneWork(16);
        for (int contract = 0; contract < 11; contract++) {
            is("6: how many there are", x.assign(contract + 1, 0, 0, 1, 0, 999), contract + 1);
        }
        is("6: twelve", x.assign(0, 15, 0, 40, 0, 999), 12);
        CHECK.refused("6: a 13th contract", STATE, () -> x.assign(0, 14, 0, 100, 0, 999));
        CHECK.refused("6: a 13th contract once more", STATE, () -> x.assign(1, 14, 1, 1, 9, 9));
        CHECK.refused("22: which is not there", INDEX, () -> x.notRecouped(12));
        CHECK.refused("7: nor an advance on it", INDEX, () -> x.advance(12, 1));
        is("7: an advance on the last one", x.advance(11, 70), 70);
        int use = Houses.radio(x, 100, 0);
        is("19: it hands on", x.gets(use, 15), 40);
        is("19: the one that was refused does not", x.gets(use, 14), 0);
        x.period();
        is("22: it is recouped", x.notRecouped(11), 10);
        TRACE.refused("6: a 13th contract", Houses.FULL_CONTRACTS, STATE, y -> y.assign(0, 4, 0, 100, 0, 999));
        TRACE.refused("6: a 13th contract, the same once more", Houses.FULL_CONTRACTS, STATE,
                y -> y.assign(0, 2, 0, 25, 0, 999));
        TRACE.refused("6: a 13th contract of hands that have none", Houses.FULL_CONTRACTS, STATE,
                y -> y.assign(3, 2, 1, 1, 9, 9));
    }

    private static void twentyClaims() {
        House x = Houses.withHands(2);
        x.addWork(1000);
        for (int claim = 0; claim < 20; claim++) {
            is("8: its number", x.claim(0, claim % 2, 1 + claim, 10 * claim), claim);
        }
        CHECK.refused("8: a 21st claim", STATE, () -> x.claim(0, 0, 1, 0));
        CHECK.refused("9: which is not there", INDEX, () -> x.decide(20, true));
        for (int claim = 0; claim < 19; claim++) {
            is("9: each is decided", x.decide(claim, false), false);
        }
        is("29: the last one is not", x.isDisputed(0, 190), true);
        is("29: it is from its day on", x.isDisputed(0, 189), false);
        CHECK.refused("8: those decided have their places", STATE, () -> x.claim(0, 0, 1, 0));
        is("9: the last one", x.decide(19, true), false);
        is("28: sets the share", x.shareOn(0, 1, 190), 20);
        is("29: no dispute is left", x.isDisputed(0, 999), false);
        CHECK.refused("8: a 21st claim, all decided", STATE, () -> x.claim(0, 0, 1, 0));
        is("29: which is none", x.isDisputed(0, 999), false);
        TRACE.refused("8: a 21st claim, some open", Houses.FULL_CLAIMS, STATE, y -> y.claim(0, 0, 1, 0));
        TRACE.refused("8: a 21st claim on another work", Houses.FULL_CLAIMS, STATE, y -> y.claim(3, 4, 100, 999));
    }

    private static void sixtyUses() {
        House x = Houses.withOneWork(1);
        for (int use = 0; use < 60; use++) {
            is("11: its number", Houses.radio(x, use + 1, 3), use);
            is("31: how many there are", x.uses(), use + 1);
        }
        CHECK.refused("11: a 61st use", STATE, () -> Houses.radio(x, 1, 0));
        is("31: there are sixty", x.uses(), 60);
        CHECK.refused("15: the 61st is not there", INDEX, () -> x.gross(60));
        is("15: the last one", x.gross(59), 60);
        is("16: is shared", x.share(59, 0), 60);
        is("23: and paid", x.period(), 60);
        is("24: in the first period", x.paidIn(59), 0);
        is("20: like all others", x.account(0), 60 * 61 / 2);
        CHECK.refused("11: those paid have their places", STATE, () -> Houses.radio(x, 1, 0));
        is("23: nothing more is paid", x.period(), 0);
        TRACE.refused("11: a 61st use, known", Houses.FULL_USES, STATE, y -> y.use('r', 0, words(1, 2), 1, 0));
        TRACE.refused("11: a 61st use, not known", Houses.FULL_USES, STATE, y -> y.use('s', 2, 0, 1000000, 999));
    }

    private static void threeTitles() {
        House x = Houses.withHands(0);
        x.addWork(1000);
        x.addWork(1000);
        x.use('r', 0, words(4), 1, 0);
        for (int title = 1; title <= 3; title++) {
            is("12: a title", x.nameOf(0, words(title)), 0);
        }
        CHECK.refused("12: a fourth title", STATE, () -> x.nameOf(0, words(4)));
        is("13: does not make a use known", x.matched(0), -1);
        CHECK.refused("12: nor one that it has", STATE, () -> x.nameOf(0, words(3)));
        for (int title = 1; title <= 3; title++) {
            is("13: each of the three counts", x.matched(x.use('r', 0, words(title), 1, 0)), 0);
        }
        is("12: another work has room", x.nameOf(1, words(4)), 1);
        is("13: and the use is of this", x.matched(0), 1);
        is("12: for a second one", x.nameOf(1, words(4)), 0);
        is("12: for a third one, the same", x.nameOf(1, words(4)), 0);
        CHECK.refused("12: not for a fourth, the same", STATE, () -> x.nameOf(1, words(4)));
        TRACE.refused("12: a fourth title, like a use that is not known", Houses.FULL_TITLES, STATE,
                y -> y.nameOf(0, words(9, 9)));
        TRACE.refused("12: a fourth title without words", Houses.FULL_TITLES, STATE, y -> y.nameOf(0, 0));
        TRACE.refused("12: a fourth title, the greatest text", Houses.FULL_TITLES, STATE, y -> y.nameOf(0, Houses.MAX));
    }

    private static void thirtyPeriods() {
        House x = Houses.withOneWork(1);
        for (int period = 0; period < 30; period++) {
            int now = period;
            CHECK.refused("25: it has not ended", INDEX, () -> x.statement(now, 0));
            Houses.radio(x, period + 1, 0);
            is("23: one use", x.period(), 1);
            is("24: its period", x.paidIn(period), period);
            is("25: what was got in it", x.statement(period, 0), period + 1);
        }
        Houses.radio(x, 5, 0);
        CHECK.refused("23: a 31st period", STATE, x::period);
        CHECK.refused("23: a 31st period once more", STATE, x::period);
        CHECK.refused("25: which is not there", INDEX, () -> x.statement(30, 0));
        CHECK.refused("24: and pays nothing", NO_ELEMENT, () -> x.paidIn(30));
        is("20: nor counts on an account", x.account(0), 30 * 31 / 2);
        is("25: the last period", x.statement(29, 0), 30);
        is("36: sound", x.isSound(), true);
        TRACE.refused("23: a 31st period", Houses.FULL_PERIODS, STATE, House::period);
        Houses.SetUp none = Houses.EMPTY.with(", 30 periods", y -> {
            for (int period = 0; period < 30; period++) {
                is("23: without uses", y.period(), 0);
            }
        });
        TRACE.refused("23: a 31st period without uses", none, STATE, House::period);
    }

    private static void allIsFull() {
        Houses.SetUp full = Houses.ALL_FULL;
        TRACE.refused("2: all is full", full, STATE, x -> x.addHand(false, 0));
        TRACE.refused("3: all is full", full, STATE, x -> x.addWork(1000));
        TRACE.refused("6: all is full", full, STATE, x -> x.assign(0, 1, 0, 100, 0, 999));
        TRACE.refused("8: all is full", full, STATE, x -> x.claim(0, 0, 1, 0));
        TRACE.refused("11: all is full", full, STATE, x -> x.use('r', 0, words(1, 2), 1, 0));
        TRACE.refused("23: all is full", full, STATE, House::period);
        for (int work = 0; work < 20; work++) {
            int named = work;
            CHECK.refused("12: all is full", STATE, () -> full.make().nameOf(named, words(9, 9)));
        }
        House x = full.make();
        is("36: sound", x.isSound(), true);
        is("4: shares can be set", x.setShare(19, 15, 100, 999), 100);
        is("5: and parts", x.setPart(18, 19, 100), 100);
        is("7: and advances paid", x.advance(11, 100000) > 0, true);
        is("9: and claims decided", x.decide(19, false), false);
        is("10: and rates set", x.tariff('s', 2, 1000), 10);
        is("36: and it stays sound", x.isSound(), true);
    }

    private static void asManyCallsAsArePromised() {
        House x = Houses.withHands(1);
        x.addWork(1000);
        for (int i = 0; i < 500; i++) {
            is("4: a share for each of 500 days", x.setShare(0, 0, i % 101, 999 - i), i % 101);
        }
        is("28: ahead of all", x.shareOn(0, 0, 499), 0);
        is("28: the one that was set last", x.shareOn(0, 0, 500), 499 % 101);
        is("28: the one ahead of it", x.shareOn(0, 0, 501), 498 % 101);
        is("28: one in between", x.shareOn(0, 0, 744), 255 % 101);
        is("28: the next one", x.shareOn(0, 0, 743), 256 % 101);
        is("28: the one that was set first", x.shareOn(0, 0, 999), 0);
        is("28: the second one", x.shareOn(0, 0, 998), 1);
        is("4: another one for such a day", x.setShare(0, 0, 77, 600), 77);
        is("28: which counts", x.shareOn(0, 0, 600), 77);
        is("28: the 512th call", x.shareOn(0, 0, 601), 398 % 101);
    }

    private static void sharesOfAllHandsInAllWorks() {
        House x = Houses.withHands(16);
        for (int work = 0; work < 20; work++) {
            x.addWork(1000);
        }
        for (int work = 0; work < 20; work++) {
            for (int hand = 0; hand < 16; hand++) {
                x.setShare(work, hand, (7 * work + hand) % 101, work);
            }
        }
        for (int work = 0; work < 20; work++) {
            for (int hand = 0; hand < 16; hand += 5) {
                is("28: each by itself", x.shareOn(work, hand, work), (7 * work + hand) % 101);
            }
        }
        is("29: the first work, 120 together", x.isDisputed(0, 0), true);
        is("29: the last work, ahead of its day", x.isDisputed(19, 18), false);
        is("29: the last work, on its day", x.isDisputed(19, 19), true);
    }

    // ---- empty

    private static void newObject() {
        House x = new House();
        is("30: no works", x.works(), 0);
        is("31: no uses", x.uses(), 0);
        is("32: nothing is open", x.pot(), 0);
        is("33: nothing is held", x.holds(), 0);
        is("36: sound", x.isSound(), true);
        Houses.SetUp empty = Houses.EMPTY;
        TRACE.refused("4: no work, no hand", empty, INDEX, y -> y.setShare(0, 0, 1, 0));
        TRACE.refused("5: no work", empty, INDEX, y -> y.setPart(0, 0, 0));
        TRACE.refused("6: no hand", empty, INDEX, y -> y.assign(0, 1, 0, 1, 0, 0));
        TRACE.refused("7: no contract", empty, INDEX, y -> y.advance(0, 1));
        TRACE.refused("8: no work, no hand", empty, INDEX, y -> y.claim(0, 0, 1, 0));
        TRACE.refused("9: no claim", empty, INDEX, y -> y.decide(0, false));
        TRACE.refused("12: no work", empty, INDEX, y -> y.nameOf(0, 1));
        TRACE.refused("13: no use", empty, INDEX, y -> y.matched(0));
        TRACE.refused("14: no use", empty, INDEX, y -> y.likeness(0, 0));
        TRACE.refused("15: no use", empty, INDEX, y -> y.gross(0));
        TRACE.refused("16: no use", empty, INDEX, y -> y.share(0, 0));
        TRACE.refused("17: no use", empty, INDEX, y -> y.held(0));
        TRACE.refused("18: no use", empty, INDEX, y -> y.open(0));
        TRACE.refused("19: no use", empty, INDEX, y -> y.gets(0, 0));
        TRACE.refused("20: no hand", empty, INDEX, y -> y.account(0));
        TRACE.refused("21: no hand", empty, INDEX, y -> y.tax(0));
        TRACE.refused("22: no contract", empty, INDEX, y -> y.notRecouped(0));
        TRACE.refused("24: no use", empty, INDEX, y -> y.paidIn(0));
        TRACE.refused("25: no period, no hand", empty, INDEX, y -> y.statement(0, 0));
        TRACE.refused("26: no use", empty, INDEX, y -> y.chain(0, 0));
        TRACE.refused("27: no use", empty, INDEX, y -> y.chainAt(0, 0, 0));
        TRACE.refused("28: no work", empty, INDEX, y -> y.shareOn(0, 0, 0));
        TRACE.refused("29: no work", empty, INDEX, y -> y.isDisputed(0, 0));
        TRACE.refused("34: no uses", empty, ArithmeticException.class, House::knownBits);
        TRACE.refused("35: no uses", empty, ArithmeticException.class, House::meanBits);
        is("2: the first hand", x.addHand(false, 0), 0);
        is("3: the first work", x.addWork(1000), 0);
        is("11: the first use", x.use('r', 0, 0, 1, 0), 0);
        is("15: at rate 10", x.gross(0), 10);
    }

    private static void withoutHandsOrWorks() {
        Houses.SetUp works = new Houses.SetUp("a work without hands", 0, 1, 0, x -> x.addWork(1000));
        TRACE.refused("4: no hand", works, INDEX, x -> x.setShare(0, 0, 1, 0));
        TRACE.refused("8: no hand", works, INDEX, x -> x.claim(0, 0, 1, 0));
        TRACE.refused("28: no hand", works, INDEX, x -> x.shareOn(0, 0, 0));
        is("29: in dispute with nobody", works.make().isDisputed(0, 0), false);
        Houses.SetUp hands = new Houses.SetUp("a hand without works", 1, 0, 0, x -> x.addHand(false, 0));
        TRACE.refused("4: no work", hands, INDEX, x -> x.setShare(0, 0, 1, 0));
        TRACE.refused("6: no other hand", hands, INDEX, x -> x.assign(0, 1, 0, 1, 0, 0));
        TRACE.refused("8: no work", hands, INDEX, x -> x.claim(0, 0, 1, 0));
        House x = works.make();
        x.nameOf(0, words(1));
        is("13: it is known", x.matched(Houses.radio(x, 1, 0)), 0);
        is("18: but nobody has it", x.open(0), 10);
        is("23: it is paid", x.period(), 1);
        is("2: a hand that comes later", x.addHand(false, 0), 0);
        is("25: got nothing in that period", x.statement(0, 0), 0);
        is("16: nor has a share", x.share(0, 0), 0);
        CHECK.refused("26: nor is in a chain", NO_ELEMENT, () -> x.chain(0, 0));
    }

    private static void withoutShares() {
        House x = Houses.withHands(2);
        x.addWork(1000);
        x.nameOf(0, words(1));
        int use = Houses.radio(x, 7, 5);
        is("28: 0 without any", x.shareOn(0, 0, 5), 0);
        is("29: not in dispute", x.isDisputed(0, 5), false);
        is("16: nothing", x.share(use, 0), 0);
        is("19: nothing kept", x.gets(use, 0), 0);
        is("17: nothing held", x.held(use), 0);
        is("18: all is open", x.open(use), 70);
        is("32: in the pot", x.pot(), 70);
        x.period();
        is("20: nothing on the account", x.account(0), 0);
        CHECK.refused("26: no chain", NO_ELEMENT, () -> x.chain(use, 0));
        x.claim(0, 1, 30, 5);
        is("17: held by a claim without any share", x.held(use), 70);
        x.decide(0, true);
        is("16: the share that holds", x.share(use, 1), 21);
        is("18: what nobody has", x.open(use), 49);
    }

    private static void withoutTitles() {
        House x = Houses.withHands(1);
        x.addWork(1000);
        x.setShare(0, 0, 100, 0);
        int use = Houses.radio(x, 7, 5);
        is("14: 0 without any", x.likeness(use, 0), 0);
        is("13: not known", x.matched(use), -1);
        is("18: all is open", x.open(use), 70);
        is("16: nobody has it", x.share(use, 0), 0);
        is("12: known by its first title", x.nameOf(0, words(1)), 1);
        is("16: then it is shared", x.share(use, 0), 70);
        is("18: and not open", x.open(use), 0);
    }

    private static void withoutContracts() {
        House x = Houses.withOneWork(2);
        int use = Houses.radio(x, 7, 5);
        is("19: all that comes is kept", x.gets(use, 0), 7);
        is("26: a chain of the hand alone", x.chain(use, 0), 1);
        CHECK.refused("26: none to another one", NO_ELEMENT, () -> x.chain(use, 1));
        CHECK.refused("22: no contract", INDEX, () -> x.notRecouped(0));
        CHECK.refused("7: no advance", INDEX, () -> x.advance(0, 1));
        is("6: the first one", x.assign(0, 1, 1, 1, 0, 0), 1);
        is("22: without advances", x.notRecouped(0), 0);
    }

    private static void withoutUses() {
        House x = Houses.withOneWork(2);
        is("23: no use is paid", x.period(), 0);
        is("25: nothing was got", x.statement(0, 0), 0);
        x.assign(0, 1, 0, 1, 0, 0);
        x.advance(0, 5);
        is("23: again none", x.period(), 0);
        is("25: an advance was got", x.statement(1, 0), 5);
        is("25: and paid", x.statement(1, 1), -5);
        is("32: an empty pot", x.pot(), 0);
        is("33: nothing held", x.holds(), 0);
        is("12: no use is known by a title", x.nameOf(0, words(1)), 0);
        is("36: sound", x.isSound(), true);
        CHECK.refused("34: none", ArithmeticException.class, x::knownBits);
        CHECK.refused("35: none", ArithmeticException.class, x::meanBits);
    }

    private static void withoutPeriods() {
        House x = Houses.withOneWork(2);
        Houses.radio(x, 7, 5);
        is("20: nothing was paid", x.account(0), 0);
        is("21: nothing is withheld", x.tax(0), 0);
        CHECK.refused("24: not paid", NO_ELEMENT, () -> x.paidIn(0));
        CHECK.refused("25: no period", INDEX, () -> x.statement(0, 0));
        x.assign(0, 1, 0, 1, 0, 0);
        is("22: nothing is recouped", x.advance(0, 5), 5);
        is("20: but for the advance", x.account(0), 5);
        is("36: sound, as there were none", x.isSound(), true);
    }

    private static void withoutWords() {
        House x = Houses.withHands(0);
        x.addWork(1000);
        x.addWork(1000);
        int none = x.use('r', 0, 0, 1, 0);
        int some = x.use('r', 0, words(1), 1, 0);
        is("12: a title without words", x.nameOf(0, 0), 0);
        is("14: both have none", x.likeness(none, 0), 0);
        is("14: only the title has none", x.likeness(some, 0), 0);
        is("12: a title with words", x.nameOf(1, words(1)), 1);
        is("14: only the use has none", x.likeness(none, 1), 0);
        is("13: a use without words is not known", x.matched(none), -1);
        is("13: nor the next one", x.matched(x.use('r', 0, 0, 1, 0)), -1);
        is("18: all is open", x.open(none), 10);
    }
}
