import java.util.NoSuchElementException;

/** The sentences of the document's section "Terms", each on either side of what it names. */
public final class TermsTest {
    private static final Check CHECK = new Check();
    private static final Trace TRACE = new Trace(CHECK);
    private static final Class<NoSuchElementException> NO_ELEMENT = NoSuchElementException.class;

    public static void main(String[] args) {
        eachSumIsToldAndAddsUp();
        latestDayUpToThatDay();
        ofSeveralForOneDayTheLastSet();
        moreThanAHundredTogether();
        aClaimFromADayUpToThisOne();
        aClaimThatHolds();
        aUseHasItsRate();
        wordsOfATextAreItsDigits();
        commonWordsAsOftenAsBothHaveThem();
        likenessIsCut();
        theGreatestOfAllTitles();
        theGreatestLikenessTheLowestWork();
        atLeastSixty();
        matchedAsItIsToldAndAnew();
        partsAreOfTheWholeMoney();
        partsGoOnEachWayByItself();
        partsCountAsTheyAreNow();
        endedThenInDisputeThenShared();
        eachWorkByItsOwnRights();
        severalThatEnded();
        whatIsLeftOfSharesIsOpen();
        aWorkThatIsNotKnown();
        contractsByRisingNumbersOfWhatIsLeft();
        contractsOfTheHandAlone();
        backToAHandOfTheWay();
        eachWayByItself();
        sharesOfAllWorksGoThroughTogether();
        societies();
        theFirstWay();
        theFirstWayOnWhichSomethingIsKept();
        advancesOnAccounts();
        recoupedByRisingNumbers();
        handsByRisingNumbers();
        ofWhateverLandsAndDays();
        usesByPeriodsThenByNumbers();
        whatComesSoIsItsOwn();
        taxOfTheSumForEachUse();
        alwaysAsTheyWouldBeSharedNow();
        askedFirstBehindAChange();
        questionsChangeNothing();
        CHECK.end();
    }

    private static void is(String what, long got, long due) {
        CHECK.is(what, got, due);
    }

    private static void is(String what, boolean got, boolean due) {
        CHECK.is(what, got, due);
    }

    private static int words(int... words) {
        return Houses.words(words);
    }

    private static int radio(House x, int coins, int day) {
        return Houses.radio(x, coins, day);
    }

    /** Hands without taxes and works that each have their own hand and bear their own word; work 0 is words(1). */
    private static House withWorks(int many) {
        House x = Houses.withHands(many);
        for (int work = 0; work < many; work++) {
            x.addWork(1000);
            x.setShare(work, work, 100, 0);
            x.nameOf(work, words(work + 1));
        }
        x.tariff('r', 0, 1);
        return x;
    }

    // ---- sums

    private static void eachSumIsToldAndAddsUp() {
        House x = withWorks(3);
        int use = x.use('r', 0, words(1), 997, 10);
        int hand = x.addHand(true, 0);
        addsUp(x, use, "as it was told");
        x.setPart(0, 1, 33);
        addsUp(x, use, "with a part");
        x.setPart(1, 2, 7);
        addsUp(x, use, "with a part of a part");
        x.setShare(1, 1, 77, 10);
        addsUp(x, use, "with an open rest");
        x.claim(2, 1, 1, 10);
        addsUp(x, use, "with a dispute");
        x.assign(0, hand, 0, 13, 0, 999);
        addsUp(x, use, "with a contract to a society");
        x.assign(hand, 2, 0, 51, 0, 999);
        addsUp(x, use, "with a contract of a society");
        x.period();
        x.advance(0, 100);
        addsUp(x, use, "paid, with an advance");
        x.decide(0, true);
        addsUp(x, use, "decided");
    }

    private static void addsUp(House x, int use, String when) {
        long sum = x.held(use) + x.open(use);
        for (int hand = 0; hand < 4; hand++) {
            sum += x.gets(use, hand);
        }
        is("the sum of a use " + when, sum, 997);
        is("36: sound " + when, x.isSound(), true);
    }

    // ---- shares

    private static void latestDayUpToThatDay() {
        House x = Houses.withHands(2);
        x.addWork(1000);
        x.addWork(1000);
        x.setShare(0, 0, 30, 20);
        x.setShare(0, 0, 10, 5);
        x.setShare(0, 0, 20, 10);
        int[] days = {0, 4, 5, 9, 10, 19, 20, 999};
        int[] due = {0, 0, 10, 10, 20, 20, 30, 30};
        for (int i = 0; i < days.length; i++) {
            is("28: on day " + days[i], x.shareOn(0, 0, days[i]), due[i]);
            is("28: of another hand", x.shareOn(0, 1, days[i]), 0);
            is("28: in another work", x.shareOn(1, 0, days[i]), 0);
        }
        x.nameOf(0, words(1));
        x.tariff('r', 0, 1);
        for (int i = 0; i < days.length; i++) {
            is("16: on day " + days[i], x.share(radio(x, 100, days[i]), 0), due[i]);
        }
        x.setShare(0, 0, 0, 15);
        int late = radio(x, 100, 20);
        int early = radio(x, 100, 4);
        is("16: the later day asked first", x.share(late, 0), 30);
        is("16: then the earlier one", x.share(early, 0), 0);
        is("28: a share of 0 counts from its day on", x.shareOn(0, 0, 15), 0);
        is("28: not ahead of it", x.shareOn(0, 0, 14), 20);
        is("28: nor behind the next one", x.shareOn(0, 0, 20), 30);
    }

    private static void ofSeveralForOneDayTheLastSet() {
        House x = Houses.withOneWork(1);
        int use = radio(x, 100, 7);
        x.setShare(0, 0, 40, 7);
        x.setShare(0, 0, 60, 7);
        is("28: the second one", x.shareOn(0, 0, 7), 60);
        is("16: the second one", x.share(use, 0), 60);
        is("4: the sum of the second one alone", x.setShare(0, 0, 50, 7), 50);
        is("28: the third one", x.shareOn(0, 0, 8), 50);
        is("28: not ahead of its day", x.shareOn(0, 0, 6), 100);
        x.setShare(0, 0, 1, 6);
        is("28: an earlier day that is set last", x.shareOn(0, 0, 7), 50);
        is("16: does not count on a later day", x.share(use, 0), 50);
        x.setShare(0, 0, 40, 7);
        is("28: the first one again", x.shareOn(0, 0, 7), 40);
    }

    private static void moreThanAHundredTogether() {
        House x = Houses.withOneWork(16);
        int use = radio(x, 100, 5);
        x.setShare(0, 0, 25, 0);
        for (int hand = 1; hand < 16; hand++) {
            is("4: the sum", x.setShare(0, hand, 5, 5), 25 + 5 * hand);
        }
        is("29: 100 together", x.isDisputed(0, 5), false);
        is("17: nothing held", x.held(use), 0);
        is("16: shared", x.share(use, 15), 5);
        is("4: 101 together by the last hand", x.setShare(0, 15, 6, 5), 101);
        is("29: in dispute", x.isDisputed(0, 5), true);
        is("29: up to the last day", x.isDisputed(0, 999), true);
        is("29: not ahead of that day", x.isDisputed(0, 4), false);
        is("17: all is held", x.held(use), 100);
        is("16: nothing is shared", x.share(use, 15) + x.share(use, 0), 0);
        x.setShare(0, 0, 24, 900);
        is("29: no longer from day 900 on", x.isDisputed(0, 900), false);
        is("29: but up to it", x.isDisputed(0, 899), true);
        x.setShare(0, 0, 24, 5);
        is("17: nothing held any more", x.held(use), 0);
        is("16: shared anew", x.share(use, 15), 6);
    }

    private static void aClaimFromADayUpToThisOne() {
        House x = Houses.withOneWork(2);
        int ahead = radio(x, 10, 6);
        int on = radio(x, 20, 7);
        int behind = radio(x, 30, 8);
        x.claim(0, 0, 1, 7);
        is("29: the day ahead of the claim", x.isDisputed(0, 6), false);
        is("29: the day of the claim", x.isDisputed(0, 7), true);
        is("29: the day behind", x.isDisputed(0, 8), true);
        is("17: held ahead of it", x.held(ahead), 0);
        is("17: held on its day", x.held(on), 20);
        is("17: held behind it", x.held(behind), 30);
        is("33: held of all", x.holds(), 50);
        x.claim(0, 1, 1, 8);
        x.decide(0, false);
        is("29: the first one is decided", x.isDisputed(0, 7), false);
        is("29: the second one is not", x.isDisputed(0, 8), true);
        is("33: held of all", x.holds(), 30);
        x.decide(1, false);
        is("29: both are decided", x.isDisputed(0, 999), false);
        is("33: nothing held", x.holds(), 0);
    }

    private static void aClaimThatHolds() {
        House x = Houses.withHands(2);
        x.addWork(1000);
        x.setShare(0, 0, 10, 5);
        x.setShare(0, 0, 50, 20);
        x.claim(0, 0, 30, 10);
        is("28: a claim sets nothing yet", x.shareOn(0, 0, 10), 10);
        x.setShare(0, 0, 7, 10);
        x.decide(0, true);
        is("28: ahead of its day", x.shareOn(0, 0, 9), 10);
        is("28: in place of what was set before the decision", x.shareOn(0, 0, 10), 30);
        is("28: up to the next day that was set", x.shareOn(0, 0, 19), 30);
        is("28: from that day on what was set for it", x.shareOn(0, 0, 20), 50);
        is("28: of no other hand", x.shareOn(0, 1, 10), 0);
        x.setShare(0, 0, 8, 10);
        is("28: what is set behind the decision", x.shareOn(0, 0, 10), 8);
        x.claim(0, 0, 90, 0);
        x.decide(1, false);
        is("28: a claim that falls sets nothing", x.shareOn(0, 0, 0) + x.shareOn(0, 0, 10), 8);
        x.claim(0, 0, 41, 20);
        x.claim(0, 0, 42, 20);
        x.decide(3, true);
        x.decide(2, true);
        is("28: the one that was decided last", x.shareOn(0, 0, 20), 41);
        x.claim(0, 1, 60, 20);
        is("9: past 100 together", x.decide(4, true), false);
        is("29: stays in dispute", x.isDisputed(0, 20), true);
    }

    // ---- uses and words

    private static void aUseHasItsRate() {
        House x = Houses.withOneWork(1);
        int before = x.use('r', 0, words(1), 6, 0);
        x.tariff('r', 0, 5);
        int behind = x.use('r', 0, words(1), 6, 0);
        x.period();
        x.tariff('r', 0, 1000);
        is("15: by the rate before", x.gross(before), 6);
        is("15: by the rate behind", x.gross(behind), 30);
        is("16: and shared so", x.share(before, 0), 6);
        is("20: and counted so", x.account(0), 36);
    }

    private static int likenessOf(int title, int text) {
        House x = Houses.withHands(0);
        x.addWork(1000);
        x.nameOf(0, title);
        return x.likeness(x.use('r', 0, text, 1, 0), 0);
    }

    private static void wordsOfATextAreItsDigits() {
        is("14: the digit 1", likenessOf(words(1), words(1)), 100);
        is("14: the digit 63", likenessOf(63, words(63)), 100);
        is("14: 63 is not 62", likenessOf(63, 62), 0);
        is("14: the digit 0 is no word", likenessOf(words(1, 0, 0), words(1)), 100);
        is("14: nor in between", likenessOf(words(1, 0, 2), words(2, 1)), 100);
        is("14: 64 is the word 1", likenessOf(64, 1), 100);
        is("14: 65 is the word 1 twice", likenessOf(65, words(1, 1)), 100);
        is("14: 65 has one more than 1", likenessOf(65, 1), 66);
        is("14: the sixth digit", likenessOf(1 << 30, 1), 100);
        is("14: the sixth digit alone", likenessOf(1 << 30, 2), 0);
        is("14: five words of 63", likenessOf((1 << 30) - 1, words(63, 63, 63, 63, 63)), 100);
        is("14: six words", likenessOf(Houses.MAX, words(63, 63, 63, 63, 63)), 90);
        is("14: the sixth of them is 1", likenessOf(Houses.MAX, words(1)), 28);
        is("14: one of the others", likenessOf(Houses.MAX, words(63)), 28);
    }

    private static void commonWordsAsOftenAsBothHaveThem() {
        is("14: none", likenessOf(words(1, 2), words(3, 4)), 0);
        is("14: one of two and two", likenessOf(words(1, 2), words(2, 3)), 50);
        is("14: once and twice", likenessOf(words(7), words(7, 7)), 66);
        is("14: twice and once", likenessOf(words(7, 7), words(7)), 66);
        is("14: twice and three times", likenessOf(words(7, 7), words(7, 7, 7)), 80);
        is("14: twice each, another order", likenessOf(words(7, 8, 7), words(8, 7, 7)), 100);
        is("14: once, beside others twice", likenessOf(words(7, 8, 8), words(7, 7, 8)), 66);
        is("14: the same word beside others", likenessOf(words(1, 1, 2, 3), words(1, 4, 5, 6)), 25);
    }

    private static void likenessIsCut() {
        is("14: 2 of 3", likenessOf(words(1), words(1, 2)), 66);
        is("14: 2 of 5", likenessOf(words(1, 2), words(1, 3, 4)), 40);
        is("14: 2 of 7", likenessOf(words(1, 2), words(1, 3, 4, 5, 6)), 28);
        is("14: 4 of 7", likenessOf(words(1, 2), words(1, 2, 4, 5, 6)), 57);
        is("14: 6 of 7", likenessOf(words(1, 2, 3), words(1, 2, 3, 4)), 85);
        is("14: 8 of 9", likenessOf(words(1, 2, 3, 4), words(1, 2, 3, 4, 5)), 88);
        is("14: two words, one of them the sixth", likenessOf((1 << 30) + 2, words(1, 2)), 100);
    }

    private static void theGreatestOfAllTitles() {
        House x = Houses.withHands(0);
        x.addWork(1000);
        int use = x.use('r', 0, words(1, 2, 3, 4), 1, 0);
        is("14: without titles", x.likeness(use, 0), 0);
        x.nameOf(0, words(1));
        is("14: one title", x.likeness(use, 0), 40);
        x.nameOf(0, words(9));
        is("14: a title that is less alike", x.likeness(use, 0), 40);
        is("12: a title that is more alike", x.nameOf(0, words(1, 2, 3)), 1);
        is("14: the greatest, not the sum", x.likeness(use, 0), 85);
        House other = Houses.withHands(0);
        other.addWork(1000);
        other.nameOf(0, words(1, 2, 3));
        other.nameOf(0, words(1));
        is("14: the first of two titles", other.likeness(other.use('r', 0, words(1, 2, 3), 1, 0), 0), 100);
        is("13: by which it is known", other.matched(0), 0);
    }

    private static void theGreatestLikenessTheLowestWork() {
        House x = Houses.withHands(0);
        for (int work = 0; work < 4; work++) {
            x.addWork(1000);
        }
        x.nameOf(0, words(9, 8));
        x.nameOf(3, words(1, 2));
        x.nameOf(1, words(1, 2, 3));
        x.nameOf(2, words(2, 1));
        is("13: of two the lowest one", x.matched(x.use('r', 0, words(1, 2), 1, 0)), 2);
        is("13: a lower one that is less alike", x.matched(x.use('r', 0, words(1, 2, 0), 1, 0)), 2);
        is("13: the one that is more alike", x.matched(x.use('r', 0, words(3, 2, 1), 1, 0)), 1);
        is("13: 66 and 40", x.matched(x.use('r', 0, words(1, 2, 5, 6), 1, 0)), 2);
        is("14: alike", x.likeness(3, 1), 57);
        is("14: more alike", x.likeness(3, 2), 66);
        is("13: the lowest of all", x.matched(x.use('r', 0, words(8, 9), 1, 0)), 0);
    }

    private static void atLeastSixty() {
        House x = Houses.withHands(0);
        x.addWork(1000);
        x.nameOf(0, words(1, 2, 3, 4, 5));
        int sixty = x.use('r', 0, words(1, 2, 3, 8, 9), 1, 0);
        is("14: 6 of 10", x.likeness(sixty, 0), 60);
        is("13: 60 is known", x.matched(sixty), 0);
        int less = x.use('r', 0, words(1, 2), 1, 0);
        is("14: 4 of 7", x.likeness(less, 0), 57);
        is("13: 57 is not known", x.matched(less), -1);
        int more = x.use('r', 0, words(1, 2, 3, 9), 1, 0);
        is("14: 6 of 9", x.likeness(more, 0), 66);
        is("13: 66 is known", x.matched(more), 0);
        is("34: two of three", x.knownBits(), Float.floatToIntBits(2f / 3f));
        is("12: 60 by a title given later", x.nameOf(0, words(1, 2, 7, 8, 9)), 0);
        int later = x.use('r', 0, words(21, 22, 23, 24, 25), 1, 0);
        is("12: 60 is enough anew", x.nameOf(0, words(21, 22, 23, 28, 29)), 1);
        is("13: known by it", x.matched(later), 0);
    }

    private static void matchedAsItIsToldAndAnew() {
        House x = Houses.withHands(0);
        x.addWork(1000);
        x.addWork(1000);
        int use = x.use('r', 0, words(1, 2, 3), 1, 0);
        is("13: not known", x.matched(use), -1);
        is("12: a title of another kind", x.nameOf(1, words(4)), 0);
        is("13: still not known", x.matched(use), -1);
        is("12: known by the second work", x.nameOf(1, words(1, 2)), 1);
        is("13: of the second work", x.matched(use), 1);
        is("12: not anew while it is known", x.nameOf(0, words(1, 2, 3)), 0);
        is("13: though the first one is more alike", x.matched(use), 1);
        is("14: as its likeness tells", x.likeness(use, 0), 100);
        is("13: a use told now", x.matched(x.use('r', 0, words(1, 2, 3), 1, 0)), 0);
    }

    // ---- parts

    private static void partsAreOfTheWholeMoney() {
        House x = withWorks(4);
        x.setPart(0, 3, 33);
        x.setPart(0, 1, 33);
        x.setPart(0, 2, 33);
        int use = radio(x, 101, 0);
        for (int work = 1; work < 4; work++) {
            is("16: a third of all, cut", x.share(use, work), 33);
        }
        is("16: what is left", x.share(use, 0), 2);
        x.setPart(0, 3, 34);
        is("16: of parts of 100", x.share(use, 3), 34);
        is("16: what is cut is the work's own", x.share(use, 0), 1);
        is("18: and not open", x.open(use), 0);
    }

    private static void partsGoOnEachWayByItself() {
        House x = withWorks(4);
        x.setPart(0, 1, 50);
        x.setPart(0, 2, 50);
        x.setPart(1, 3, 50);
        x.setPart(2, 3, 50);
        int use = radio(x, 6, 0);
        is("16: one of 3 and one of 3, not 3 of 6", x.share(use, 3), 2);
        is("16: the rest of the first way", x.share(use, 1), 2);
        is("16: the rest of the second way", x.share(use, 2), 2);
        is("16: nothing is left", x.share(use, 0), 0);
        x.setShare(3, 3, 50, 0);
        is("16: the own money of each way is cut", x.share(use, 3), 0);
        is("18: and the rest of it open", x.open(use), 2);
    }

    private static void partsCountAsTheyAreNow() {
        House x = withWorks(2);
        int use = radio(x, 100, 500);
        x.period();
        is("20: ahead of the part", x.account(1), 0);
        x.setPart(0, 1, 30);
        is("16: a use that was paid", x.share(use, 1), 30);
        is("20: and what it paid", x.account(1), 30);
        x.setPart(0, 1, 0);
        is("16: not any more", x.share(use, 1), 0);
        is("20: nor on the account", x.account(1), 0);
    }

    private static void endedThenInDisputeThenShared() {
        House x = Houses.withHands(1);
        x.addWork(50);
        x.setShare(0, 0, 60, 0);
        x.nameOf(0, words(1));
        x.tariff('r', 0, 1);
        int last = radio(x, 10, 49);
        int ended = radio(x, 10, 50);
        is("16: the day ahead", x.share(last, 0), 6);
        is("18: its rest", x.open(last), 4);
        is("18: from the day on all of it", x.open(ended), 10);
        is("16: and nobody's", x.share(ended, 0), 0);
        x.claim(0, 0, 1, 0);
        is("17: in dispute on the day ahead", x.held(last), 10);
        is("18: and nothing open", x.open(last), 0);
        is("17: not from the day on", x.held(ended), 0);
        is("18: which stays open", x.open(ended), 10);
        is("29: though it is in dispute", x.isDisputed(0, 50), true);
    }

    private static void eachWorkByItsOwnRights() {
        House x = Houses.withHands(3);
        x.addWork(1000);
        x.addWork(50);
        x.addWork(1000);
        for (int work = 0; work < 3; work++) {
            x.setShare(work, work, 100, 0);
        }
        x.nameOf(0, words(1));
        x.tariff('r', 0, 1);
        x.setPart(0, 1, 20);
        x.setPart(1, 2, 50);
        int ended = radio(x, 100, 50);
        int last = radio(x, 100, 49);
        is("18: the work within has ended", x.open(ended), 10);
        is("16: the one within that has not", x.share(ended, 2), 10);
        is("16: nor the outer one", x.share(ended, 0), 80);
        is("16: on the day ahead none has", x.share(last, 1), 10);
        x.claim(0, 0, 1, 0);
        is("17: the outer one is in dispute", x.held(last), 80);
        is("16: the one within is not", x.share(last, 1), 10);
        x.claim(2, 0, 1, 50);
        is("17: the innermost one too, from its day on", x.held(ended), 90);
        is("17: and not ahead of it", x.held(last), 80);
    }

    private static void severalThatEnded() {
        House x = withWorks(1);
        x.addWork(50);
        x.addWork(50);
        x.addWork(50);
        x.setPart(0, 1, 20);
        x.setPart(0, 2, 30);
        x.setPart(2, 3, 50);
        x.setShare(0, 0, 90, 0);
        int use = radio(x, 100, 50);
        is("18: all that ended, and the rest of the shares", x.open(use), 20 + 15 + 15 + 5);
        is("16: the outer one has not ended", x.share(use, 0), 45);
        x.claim(0, 0, 1, 0);
        is("18: what ended stays open", x.open(use), 50);
        is("17: what has not is held", x.held(use), 50);
        int before = radio(x, 100, 49);
        for (int work = 1; work < 4; work++) {
            x.claim(work, 0, 1, 0);
        }
        is("17: all of them are held", x.held(before), 100);
        is("17: not from the day on", x.held(use), 50);
    }

    private static void whatIsLeftOfSharesIsOpen() {
        House x = Houses.withHands(3);
        x.addWork(1000);
        x.nameOf(0, words(1));
        x.tariff('r', 0, 1);
        for (int hand = 0; hand < 3; hand++) {
            x.setShare(0, hand, 33, 0);
        }
        int use = radio(x, 101, 0);
        is("16: a third of all, cut", x.share(use, 2), 33);
        is("18: the rest", x.open(use), 2);
        x.setShare(0, 2, 34, 0);
        is("16: of all, not of the rest", x.share(use, 2), 34);
        is("18: what is cut", x.open(use), 1);
        is("17: nothing is held", x.held(use), 0);
    }

    private static void aWorkThatIsNotKnown() {
        House x = Houses.withOneWork(1);
        int use = x.use('r', 0, words(40), 10, 0);
        x.claim(0, 0, 1, 0);
        is("18: all is open", x.open(use), 10);
        is("17: nothing is held", x.held(use), 0);
        is("16: nothing is shared", x.share(use, 0), 0);
        is("23: it is paid", x.period(), 1);
        is("20: and nobody has it", x.account(0), 0);
        is("12: once it is known", x.nameOf(0, words(40)), 1);
        is("17: it is in dispute", x.held(use), 10);
        is("18: and not open", x.open(use), 0);
        x.decide(0, false);
        is("20: and counts as paid", x.account(0), 10);
    }

    // ---- contracts

    private static void contractsByRisingNumbersOfWhatIsLeft() {
        House x = Houses.withOneWork(4);
        x.assign(0, 3, 0, 50, 0, 999);
        x.assign(0, 1, 0, 50, 0, 999);
        x.assign(0, 2, 0, 50, 0, 999);
        int use = radio(x, 99, 0);
        is("19: the lowest contract, cut", x.gets(use, 3), 49);
        is("19: the next one of what is left", x.gets(use, 1), 25);
        is("19: the last one, cut", x.gets(use, 2), 12);
        is("19: what is left is kept", x.gets(use, 0), 13);
        is("16: ahead of contracts", x.share(use, 0), 99);
        is("16: not by them", x.share(use, 3), 0);
    }

    private static void contractsOfTheHandAlone() {
        House x = Houses.withOneWork(3);
        x.assign(1, 2, 0, 100, 0, 999);
        int use = radio(x, 10, 0);
        is("19: a contract of another hand", x.gets(use, 0), 10);
        x.assign(0, 1, 1, 100, 0, 999);
        is("19: a contract for another land", x.gets(use, 0), 10);
        x.assign(0, 1, 0, 100, 1, 999);
        is("19: a contract from a later day", x.gets(use, 0), 10);
        x.assign(0, 1, 0, 40, 0, 0);
        is("19: a contract of this day", x.gets(use, 0), 6);
        is("19: goes on in the same way", x.gets(use, 2), 4);
        is("19: and through", x.gets(use, 1), 0);
        x.assign(1, 0, 0, 100, 0, 999);
        x.assign(2, 1, 0, 25, 0, 999);
        is("19: the same for all uses, paid or not", x.gets(use, 2), 4);
    }

    private static void backToAHandOfTheWay() {
        House x = Houses.withOneWork(4);
        x.assign(0, 1, 0, 50, 0, 999);
        x.assign(1, 0, 0, 50, 0, 999);
        int use = radio(x, 100, 0);
        is("19: not back to the first hand", x.gets(use, 0), 50);
        is("19: it stays where it came to", x.gets(use, 1), 50);
        x.assign(1, 2, 0, 50, 0, 999);
        x.assign(2, 1, 0, 50, 0, 999);
        x.assign(2, 0, 0, 50, 0, 999);
        is("19: not back to a hand in between, nor to the first", x.gets(use, 2), 25);
        is("19: and half stays with that", x.gets(use, 1), 25);
        x.assign(2, 3, 0, 50, 0, 999);
        is("19: but on to a new one", x.gets(use, 3), 12);
        x.assign(3, 1, 0, 100, 0, 999);
        x.assign(3, 0, 0, 100, 0, 999);
        x.assign(3, 2, 0, 100, 0, 999);
        is("19: from which all lead back", x.gets(use, 3), 12);
        x.setShare(0, 0, 0, 0);
        x.setShare(0, 3, 100, 0);
        is("19: another first hand, another way", x.chain(use, 1), 2);
        is("19: to which none leads back", x.gets(use, 3), 0);
    }

    private static void eachWayByItself() {
        House x = Houses.withOneWork(4);
        x.assign(0, 1, 0, 50, 0, 999);
        x.assign(0, 2, 0, 100, 0, 999);
        x.assign(1, 3, 0, 50, 0, 999);
        x.assign(2, 3, 0, 50, 0, 999);
        int use = radio(x, 6, 0);
        is("19: one of 3 and one of 3, not 3 of 6", x.gets(use, 3), 2);
        is("19: the rest of the first way", x.gets(use, 1), 2);
        is("19: the rest of the second way", x.gets(use, 2), 2);
        House two = Houses.withOneWork(3);
        two.setShare(0, 0, 50, 0);
        two.setShare(0, 1, 50, 0);
        two.assign(0, 1, 0, 100, 0, 999);
        two.assign(1, 2, 0, 50, 0, 999);
        is("19: what comes by a contract and by a share", two.gets(radio(two, 6, 0), 2), 2);
    }

    private static void sharesOfAllWorksGoThroughTogether() {
        House x = withWorks(3);
        x.setPart(0, 1, 50);
        x.setShare(1, 1, 0, 0);
        x.setShare(1, 0, 100, 0);
        x.assign(0, 2, 0, 50, 0, 999);
        int use = radio(x, 6, 0);
        is("16: of both works", x.share(use, 0), 6);
        is("19: 3 of 6, not one of 3 and one of 3", x.gets(use, 2), 3);
    }

    private static void societies() {
        House x = new House();
        x.addHand(false, 0);
        x.addHand(true, 20);
        x.addHand(false, 0);
        x.addWork(1000);
        x.setShare(0, 0, 60, 0);
        x.setShare(0, 1, 40, 0);
        x.nameOf(0, words(1));
        x.tariff('r', 0, 1);
        int use = radio(x, 100, 0);
        is("16: a society has a share", x.share(use, 1), 40);
        is("19: but keeps nothing", x.gets(use, 1), 0);
        is("18: what is left with it is open", x.open(use), 40);
        x.assign(0, 1, 0, 50, 0, 999);
        is("18: what comes to it too", x.open(use), 70);
        x.assign(1, 2, 0, 10, 0, 999);
        is("19: it hands on, each way by itself", x.gets(use, 2), 3 + 4);
        is("18: the rest is open", x.open(use), 63);
        CHECK.refused("26: no chain to a society", NO_ELEMENT, () -> x.chain(use, 1));
        is("26: but through it", x.chain(use, 2), 3);
        is("27: in the middle", x.chainAt(use, 2, 1), 1);
        x.period();
        is("20: it has nothing on its account", x.account(1), 0);
        x.advance(0, 50);
        is("20: what was advanced and recouped, less its tax", x.account(1), -50 + 30 - 6);
        is("21: withheld from it", x.tax(1), 6);
        is("22: the rest", x.notRecouped(0), 20);
    }

    private static void theFirstWay() {
        House x = Houses.withOneWork(5);
        x.assign(3, 4, 0, 50, 0, 999);
        x.assign(0, 2, 0, 50, 0, 999);
        x.assign(0, 1, 0, 50, 0, 999);
        x.assign(2, 3, 0, 50, 0, 999);
        x.assign(1, 4, 0, 50, 0, 999);
        int use = radio(x, 1000, 0);
        is("26: by the lower contract, though it is longer", x.chain(use, 4), 4);
        int[] way = {0, 2, 3, 4};
        for (int place = 0; place < 4; place++) {
            is("27: each place", x.chainAt(use, 4, place), way[place]);
        }
        x.setShare(0, 0, 50, 0);
        x.setShare(0, 3, 50, 0);
        is("26: the lowest hand with a share first", x.chain(use, 4), 4);
        is("26: another hand that has a share", x.chain(use, 3), 3);
        is("27: by contracts from the lowest one", x.chainAt(use, 3, 0), 0);
        x.setShare(0, 0, 0, 0);
        is("26: without a share no way begins", x.chain(use, 4), 2);
        is("27: it begins with the next hand", x.chainAt(use, 4, 0), 3);
        CHECK.refused("26: no way comes to the first one", NO_ELEMENT, () -> x.chain(use, 0));
    }

    private static void theFirstWayOnWhichSomethingIsKept() {
        House x = Houses.withOneWork(4);
        x.assign(0, 1, 0, 10, 0, 999);
        x.assign(1, 2, 0, 50, 0, 999);
        x.assign(0, 2, 0, 50, 0, 999);
        int few = radio(x, 10, 0);
        is("26: of one coin none goes on", x.chain(few, 2), 2);
        is("27: so that the second way is the first", x.chainAt(few, 2, 1), 2);
        is("26: of two coins one does", x.chain(radio(x, 20, 0), 2), 3);
        House all = Houses.withOneWork(4);
        all.assign(0, 1, 0, 50, 0, 999);
        all.assign(1, 2, 0, 100, 0, 999);
        all.assign(0, 3, 0, 50, 0, 999);
        all.assign(3, 1, 0, 50, 0, 999);
        int use = radio(all, 100, 0);
        CHECK.refused("26: on both ways all goes on", NO_ELEMENT, () -> all.chain(use, 1));
        is("26: to the hand behind it", all.chain(use, 2), 3);
        is("27: by the first way", all.chainAt(use, 2, 1), 1);
    }

    // ---- accounts

    private static void advancesOnAccounts() {
        House x = Houses.withOneWork(3);
        x.assign(0, 1, 0, 1, 0, 0);
        x.assign(2, 0, 0, 1, 0, 0);
        is("7: what is not recouped", x.advance(0, 30), 30);
        is("20: on the account of the hand", x.account(0), 30);
        is("20: taken from the one to whom it leads", x.account(1), -30);
        is("7: of the other contract", x.advance(1, 7), 7);
        is("20: given and taken", x.account(0), 23);
        is("20: on the account of the third hand", x.account(2), 7);
        is("22: each by itself", x.notRecouped(0) * 100 + x.notRecouped(1), 3007);
    }

    private static void recoupedByRisingNumbers() {
        House x = Houses.withOneWork(4);
        x.assign(0, 3, 0, 1, 999, 999);
        x.assign(1, 3, 0, 1, 999, 999);
        x.assign(0, 2, 0, 1, 999, 999);
        x.advance(2, 10);
        x.advance(1, 10);
        x.advance(0, 10);
        radio(x, 15, 0);
        x.period();
        is("22: the lowest contract first", x.notRecouped(0), 0);
        is("22: not that of another hand", x.notRecouped(1), 10);
        is("22: what is left for the next one", x.notRecouped(2), 5);
        is("20: paid back to the one", x.account(3), -20 + 10);
        is("20: and half to the other", x.account(2), -10 + 5);
        is("20: nothing is left but the advances", x.account(0), 20);
        radio(x, 6, 0);
        x.period();
        is("22: the rest of it", x.notRecouped(2), 0);
        is("20: and one coin that is left", x.account(0), 21);
    }

    /** What comes to a hand by recouping is its own, and pays nothing back in its turn, whichever of both is lower. */
    private static void handsByRisingNumbers() {
        for (int debtor = 0; debtor < 2; debtor++) {
            int other = 1 - debtor;
            House x = Houses.withOneWork(3);
            x.setShare(0, 0, 50, 0);
            x.setShare(0, 1, 50, 0);
            x.assign(debtor, other, 0, 1, 999, 999);
            x.assign(other, 2, 0, 1, 999, 999);
            x.advance(0, 10);
            x.advance(1, 100);
            radio(x, 40, 0);
            x.period();
            is("22: the first contract", x.notRecouped(0), 0);
            is("22: by what it keeps alone", x.notRecouped(1), 80);
            is("20: what is left of the debtor's", x.account(debtor), 10 + 20 - 10);
            is("20: what came to the other one is its own", x.account(other), -10 + 10 + 100);
            is("20: the third hand", x.account(2), -100 + 20);
        }
    }

    private static void ofWhateverLandsAndDays() {
        House x = Houses.withOneWork(2);
        x.assign(0, 1, 2, 1, 900, 900);
        x.advance(0, 100);
        radio(x, 30, 0);
        x.tariff('r', 1, 1);
        x.use('r', 1, words(1), 20, 899);
        x.tariff('r', 2, 1);
        x.use('r', 2, words(1), 10, 901);
        x.period();
        is("22: by uses in other lands and on other days", x.notRecouped(0), 40);
        x.use('r', 2, words(1), 50, 900);
        x.period();
        is("22: what it keeps behind the contract itself too", x.notRecouped(0), 0);
        is("20: half a coin is cut from what goes on, ten are left", x.account(0), 100 + 10);
    }

    /** Which use recoups tells whose tax is cut: all of 3 and of 1 coins are taxed by 50. */
    private static void usesByPeriodsThenByNumbers() {
        House x = new House();
        x.addHand(false, 50);
        x.addHand(false, 0);
        x.addWork(1000);
        x.setShare(0, 0, 100, 0);
        x.nameOf(0, words(1));
        x.tariff('r', 0, 1);
        x.assign(0, 1, 0, 1, 999, 999);
        x.advance(0, 4);
        radio(x, 3, 0);
        radio(x, 4, 0);
        is("23: both", x.period(), 2);
        is("22: all is recouped", x.notRecouped(0), 0);
        is("21: the first use pays back 3, of the second one 3 are left", x.tax(0), 1);
        radio(x, 2, 0);
        x.period();
        is("21: a use of a later period", x.tax(0), 2);
        x.advance(0, 4);
        is("21: 3, 4 and 1 go first to what was advanced", x.tax(0), 0);
        is("20: one coin is left", x.account(0), 8 + 1);
        is("20: all was paid back", x.account(1), 0);
    }

    private static void whatComesSoIsItsOwn() {
        House x = new House();
        x.addHand(false, 10);
        x.addHand(false, 50);
        x.addWork(1000);
        x.setShare(0, 0, 100, 0);
        x.nameOf(0, words(1));
        x.tariff('r', 0, 1);
        x.assign(0, 1, 0, 1, 999, 999);
        x.advance(0, 60);
        radio(x, 100, 0);
        x.period();
        is("21: of what is left of the hand's", x.tax(0), 4);
        is("21: of what is paid back to the other one", x.tax(1), 30);
        is("20: the advance, and what is left", x.account(0), 60 + 40 - 4);
        is("20: less the advance, paid back, less its tax", x.account(1), -60 + 60 - 30);
        is("19: a hand gets nothing by what is recouped", x.gets(0, 1), 0);
        CHECK.refused("26: nor is it a way", NO_ELEMENT, () -> x.chain(0, 1));
    }

    private static void taxOfTheSumForEachUse() {
        House x = new House();
        x.addHand(false, 0);
        x.addHand(false, 50);
        x.addWork(1000);
        x.setShare(0, 0, 50, 0);
        x.setShare(0, 1, 50, 0);
        x.nameOf(0, words(1));
        x.tariff('r', 0, 1);
        x.assign(0, 1, 0, 1, 999, 999);
        x.assign(0, 1, 1, 1, 999, 999);
        x.advance(0, 1);
        x.advance(1, 1);
        radio(x, 6, 0);
        x.period();
        is("21: of 3 kept, 1 and 1 paid back together, cut", x.tax(1), 2);
        is("20: less that", x.account(1), -2 + 5 - 2);
        radio(x, 2, 0);
        radio(x, 2, 0);
        x.period();
        is("21: cut for each use by itself", x.tax(1), 2);
        is("20: one and one more", x.account(1), 3);
        is("25: in that period", x.statement(1, 1), 2);
        radio(x, 4, 0);
        x.period();
        is("21: of 2", x.tax(1), 3);
    }

    private static void alwaysAsTheyWouldBeSharedNow() {
        House x = Houses.withOneWork(2);
        radio(x, 100, 10);
        x.period();
        is("20: as shared", x.account(0), 100);
        x.setShare(0, 0, 70, 0);
        is("20: by another share", x.account(0), 70);
        x.assign(0, 1, 0, 50, 0, 999);
        is("20: by a contract that was told later", x.account(0), 35);
        is("20: and to whom it leads", x.account(1), 35);
        x.claim(0, 1, 10, 10);
        is("20: in dispute", x.account(0) + x.account(1), 0);
        is("25: the statement is as it was", x.statement(0, 0), 100);
        x.period();
        is("25: all is taken back", x.statement(1, 0), -100);
        is("9: nobody has less", x.decide(0, true), false);
        is("20: as decided", x.account(1), 35 + 10);
        x.period();
        is("25: the account now", x.statement(2, 0), 35);
        is("25: of the other one", x.statement(2, 1), 45);
        is("36: sound", x.isSound(), true);
    }

    /** Hand 0 owes hand 1, of whom half is withheld; the use of 100 coins is paid, and the hand's share is set anew. */
    private static House sharedAnew(int share) {
        House x = new House();
        x.addHand(false, 10);
        x.addHand(false, 50);
        x.addWork(1000);
        x.setShare(0, 0, 100, 0);
        x.nameOf(0, words(1));
        x.tariff('r', 0, 1);
        x.assign(0, 1, 0, 1, 999, 999);
        x.advance(0, 60);
        radio(x, 100, 10);
        x.period();
        x.setShare(0, 0, share, 0);
        return x;
    }

    private static void askedFirstBehindAChange() {
        is("20: account", sharedAnew(80).account(0), 60 + 20 - 2);
        is("21: tax", sharedAnew(80).tax(0), 2);
        is("22: nothing left to be recouped", sharedAnew(80).notRecouped(0), 0);
        is("22: some left to be recouped", sharedAnew(40).notRecouped(0), 20);
        is("21: tax of what is paid back", sharedAnew(40).tax(1), 20);
        is("20: account of the other one", sharedAnew(40).account(1), -60 + 40 - 20);
        is("7: what is not recouped, with another advance", sharedAnew(40).advance(0, 5), 25);
        is("16: share", sharedAnew(40).share(0, 0), 40);
        is("19: gets", sharedAnew(40).gets(0, 0), 40);
        is("18: open", sharedAnew(40).open(0), 60);
        is("32: pot", sharedAnew(40).pot(), 60);
        is("25: a period that has ended", sharedAnew(40).statement(0, 0), 60 + 40 - 4);
        House next = sharedAnew(40);
        next.period();
        is("25: the next one takes back", next.statement(1, 0), -36);
        is("25: from the other one too", next.statement(1, 1), (-60 + 40 - 20) - (-60 + 60 - 30));
        House claimed = sharedAnew(40);
        claimed.claim(0, 0, 1, 11);
        is("9: less by what was set ahead of the decision is not less by it", claimed.decide(0, false), false);
        House more = sharedAnew(40);
        more.setShare(0, 0, 100, 0);
        more.claim(0, 0, 1, 11);
        is("9: nor is more", more.decide(0, true), false);
    }

    private static void questionsChangeNothing() {
        TRACE.questionsChangeNothing(Houses.EMPTY);
        TRACE.questionsChangeNothing(Houses.FILLED);
        TRACE.questionsChangeNothing(Houses.CHANGED);
        TRACE.questionsChangeNothing(Houses.FULL_CLAIMS);
        TRACE.questionsChangeNothing(Houses.FULL_PERIODS);
    }
}
