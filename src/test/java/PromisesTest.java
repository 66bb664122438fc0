import java.util.NoSuchElementException;
import java.util.concurrent.Callable;
import java.util.function.Consumer;

/** Each promise of the document: what is ordinary, what stands at the edges, and what is refused and changes nothing. */
public final class PromisesTest {
    private static final Check CHECK = new Check();
    private static final int MIN = Integer.MIN_VALUE;
    private static final int MAX = Integer.MAX_VALUE;
    private static final Class<IndexOutOfBoundsException> INDEX = IndexOutOfBoundsException.class;
    private static final Class<IllegalArgumentException> ARGUMENT = IllegalArgumentException.class;
    private static final Class<IllegalStateException> STATE = IllegalStateException.class;
    private static final Class<UnsupportedOperationException> UNSUPPORTED = UnsupportedOperationException.class;
    private static final Class<NoSuchElementException> NO_ELEMENT = NoSuchElementException.class;

    public static void main(String[] args) {
        newObject();
        hands();
        works();
        sharesSet();
        partsSet();
        partsShareOut();
        contractsTold();
        contractsHandOn();
        advances();
        claims();
        decisions();
        tariffs();
        usesTold();
        titles();
        matching();
        likeness();
        gross();
        sharesOfUses();
        heldAndOpen();
        gets();
        accounts();
        recouping();
        notRecouped();
        periods();
        statements();
        chains();
        sharesOnDays();
        disputes();
        figures();
        bits();
        soundness();
        allCallsRefuseWrongNumbers();
        CHECK.end();
    }

    // ---- helpers

    private static void is(String what, long got, long due) {
        CHECK.is(what, got, due);
    }

    private static void is(String what, boolean got, boolean due) {
        CHECK.is(what, got, due);
    }

    /** A call is refused on what the set-up makes, and all answers afterwards are those without the call. */
    private static void refused(String what, Consumer<House> setUp, Class<? extends RuntimeException> kind,
            Consumer<House> call) {
        House untouched = new House();
        House tried = new House();
        setUp.accept(untouched);
        setUp.accept(tried);
        CHECK.refused(what, kind, () -> call.accept(tried));
        CHECK.is(what + " changes nothing", answersOf(tried), answersOf(untouched));
    }

    private static void refused(String what, Class<? extends RuntimeException> kind, Consumer<House> call) {
        refused(what, PromisesTest::fillHouse, kind, call);
    }

    private static String answer(Callable<Object> call) {
        try {
            return call.call() + " ";
        } catch (Exception thrown) {
            return thrown.getClass().getSimpleName() + " ";
        }
    }

    /** Some three hundred answers of an object, those of calls that count on at the end. */
    private static String answersOf(House x) {
        StringBuilder all = new StringBuilder();
        all.append(answer(x::works)).append(answer(x::uses)).append(answer(x::pot)).append(answer(x::holds));
        all.append(answer(x::knownBits)).append(answer(x::meanBits)).append(answer(x::isSound));
        for (int use = 0; use < 3; use++) {
            all.append(answersOfUse(x, use));
        }
        for (int i = 0; i < 4; i++) {
            int n = i;
            all.append(answer(() -> x.account(n))).append(answer(() -> x.tax(n))).append(answer(() -> x.notRecouped(n)));
            all.append(answer(() -> x.statement(0, n))).append(answer(() -> x.statement(1, n)));
        }
        for (int work = 0; work < 3; work++) {
            all.append(answersOfWork(x, work));
        }
        for (int i = 0; i < 9; i++) {
            char kind = "rcs".charAt(i % 3);
            int land = i / 3;
            all.append(answer(() -> x.tariff(kind, land, 5)));
        }
        all.append(answer(() -> x.decide(0, true))).append(answer(() -> x.decide(1, true)));
        all.append(answer(() -> x.setPart(0, 1, 1))).append(answer(() -> x.setPart(2, 0, 1)));
        all.append(answer(() -> x.use('r', 0, 1, 1, 0))).append(answer(x::period));
        all.append(answer(() -> x.claim(0, 0, 1, 0))).append(answer(() -> x.assign(0, 1, 0, 1, 0, 0)));
        all.append(answer(() -> x.nameOf(0, 1))).append(answer(() -> x.nameOf(0, 1))).append(answer(() -> x.nameOf(0, 1)));
        all.append(answer(() -> x.addHand(false, 0))).append(answer(() -> x.addWork(1)));
        return all.toString();
    }

    private static String answersOfUse(House x, int use) {
        StringBuilder all = new StringBuilder("use ");
        all.append(answer(() -> x.matched(use))).append(answer(() -> x.gross(use))).append(answer(() -> x.held(use)));
        all.append(answer(() -> x.open(use))).append(answer(() -> x.paidIn(use)));
        for (int i = 0; i < 4; i++) {
            int n = i;
            all.append(answer(() -> x.likeness(use, n))).append(answer(() -> x.share(use, n)));
            all.append(answer(() -> x.gets(use, n))).append(answer(() -> x.chain(use, n)));
            all.append(answer(() -> x.chainAt(use, n, 0))).append(answer(() -> x.chainAt(use, n, 1)));
        }
        return all.toString();
    }

    private static String answersOfWork(House x, int work) {
        StringBuilder all = new StringBuilder("work ");
        for (int day : new int[] {0, 5, 10, 999}) {
            all.append(answer(() -> x.isDisputed(work, day)));
            for (int hand = 0; hand < 4; hand++) {
                int n = hand;
                all.append(answer(() -> x.shareOn(work, n, day)));
            }
        }
        return all.toString();
    }

    /** Four hands (3 is a society), three works, a contract with an advance, an open claim, three uses, one period. */
    private static void fillHouse(House x) {
        x.addHand(false, 10);
        x.addHand(false, 0);
        x.addHand(false, 50);
        x.addHand(true, 9);
        x.addWork(1000);
        x.addWork(10);
        x.addWork(1000);
        x.setShare(0, 0, 60, 0);
        x.setShare(0, 1, 30, 5);
        x.setShare(1, 1, 100, 0);
        x.setShare(2, 3, 100, 0);
        x.setPart(0, 2, 20);
        x.nameOf(0, words(1, 2));
        x.nameOf(1, words(3, 4));
        x.assign(0, 2, 0, 25, 0, 999);
        x.advance(0, 700);
        x.claim(2, 2, 40, 10);
        x.tariff('r', 0, 20);
        x.use('r', 0, words(1, 2), 100, 7);
        x.use('c', 1, words(3, 4), 12345, 9);
        x.period();
        x.use('s', 2, words(9, 9), 5000, 10);
    }

    private static House filled() {
        House x = new House();
        fillHouse(x);
        return x;
    }

    /** A text of some words, each 1 to 63. */
    private static int words(int... words) {
        int text = 0;
        for (int word : words) {
            text = text * 64 + word;
        }
        return text;
    }

    private static House withHands(int many) {
        House x = new House();
        for (int i = 0; i < many; i++) {
            x.addHand(false, 0);
        }
        return x;
    }

    /** Hands without taxes and one work, named words(1), of which hand 0 has all. */
    private static House withOneWork(int hands) {
        House x = withHands(hands);
        x.addWork(1000);
        x.setShare(0, 0, 100, 0);
        x.nameOf(0, words(1));
        return x;
    }

    private static int radio(House x, int minutes, int day) {
        return x.use('r', 0, words(1), minutes, day);
    }

    // ---- promises 1 to 7

    private static void newObject() {
        House x = new House();
        is("1: no works", x.works(), 0);
        is("1: no uses", x.uses(), 0);
        is("1: an empty pot", x.pot(), 0);
        is("1: no holds", x.holds(), 0);
        is("1: sound", x.isSound(), true);
        CHECK.refused("1: no hand", INDEX, () -> x.account(0));
        CHECK.refused("1: no work", INDEX, () -> x.isDisputed(0, 0));
        CHECK.refused("1: no use", INDEX, () -> x.gross(0));
        CHECK.refused("1: no period", INDEX, () -> x.statement(0, 0));
        CHECK.refused("1: no contract", INDEX, () -> x.notRecouped(0));
        CHECK.refused("1: no claim", INDEX, () -> x.decide(0, true));
        House other = filled();
        is("1: objects are apart", x.works() + x.uses() + other.works(), 3);
    }

    private static void hands() {
        House x = new House();
        for (int i = 0; i < 16; i++) {
            is("2: the number of a hand", x.addHand(i % 2 == 0, i == 0 ? 0 : 50), i);
        }
        is("2: a new account", x.account(15), 0);
        refused("2: tax -1", ARGUMENT, y -> y.addHand(false, -1));
        refused("2: tax 51", ARGUMENT, y -> y.addHand(true, 51));
        refused("2: tax at the least int", ARGUMENT, y -> y.addHand(true, MIN));
        Consumer<House> full = y -> {
            for (int i = 0; i < 16; i++) {
                y.addHand(false, 0);
            }
        };
        refused("2: a 17th hand", full, STATE, y -> y.addHand(false, 0));
        refused("2: a 17th hand of a wrong tax", full, ARGUMENT, y -> y.addHand(false, 51));
    }

    private static void works() {
        House x = new House();
        for (int i = 0; i < 20; i++) {
            is("3: the number of a work", x.addWork(i == 0 ? 1 : 1000), i);
            is("30: the number of works", x.works(), i + 1);
        }
        x.addHand(false, 0);
        is("3: no shares", x.shareOn(19, 0, 999), 0);
        refused("3: day 0", ARGUMENT, y -> y.addWork(0));
        refused("3: day 1001", ARGUMENT, y -> y.addWork(1001));
        Consumer<House> full = y -> {
            for (int i = 0; i < 20; i++) {
                y.addWork(1000);
            }
        };
        refused("3: a 21st work", full, STATE, y -> y.addWork(1));
        refused("3: a 21st work of a wrong day", full, ARGUMENT, y -> y.addWork(0));
    }

    private static void sharesSet() {
        House x = withHands(3);
        x.addWork(1000);
        x.addWork(1000);
        is("4: the first share", x.setShare(0, 0, 60, 10), 60);
        is("4: the sum of a day", x.setShare(0, 1, 39, 20), 99);
        is("4: the sum of an earlier day", x.setShare(0, 2, 100, 5), 100);
        is("4: a sum past 100", x.setShare(0, 2, 50, 30), 149);
        is("4: another work's sum", x.setShare(1, 2, 7, 999), 7);
        is("4: the last of one day counts", x.setShare(0, 0, 20, 10), 120);
        is("4: an earlier day set later", x.setShare(0, 0, 90, 9), 190);
        is("4: the latest day counts, not the last setting", x.shareOn(0, 0, 10), 20);
        is("4: nothing again", x.setShare(0, 0, 0, 20), 139);
        refused("4: no such work", INDEX, y -> y.setShare(3, 0, 101, -1));
        refused("4: work -1", INDEX, y -> y.setShare(-1, 0, 1, 0));
        refused("4: no such hand", INDEX, y -> y.setShare(0, 4, 1, 0));
        refused("4: hand -1", INDEX, y -> y.setShare(0, -1, 101, 0));
        refused("4: share -1", ARGUMENT, y -> y.setShare(0, 0, -1, 0));
        refused("4: share 101", ARGUMENT, y -> y.setShare(0, 0, 101, 0));
        refused("4: day -1", ARGUMENT, y -> y.setShare(0, 0, 1, -1));
        refused("4: day 1000", ARGUMENT, y -> y.setShare(0, 0, 1, 1000));
    }

    private static void partsSet() {
        House x = new House();
        for (int i = 0; i < 20; i++) {
            x.addWork(1000);
        }
        is("5: a part", x.setPart(0, 1, 60), 60);
        is("5: a second one", x.setPart(0, 2, 40), 100);
        is("5: a part set anew", x.setPart(0, 1, 50), 90);
        is("5: none of it", x.setPart(0, 1, 0), 40);
        is("5: a part of nothing the other way", x.setPart(2, 0, 0), 0);
        is("5: nothing of itself is not within itself", x.setPart(0, 0, 0), 40);
        for (int i = 2; i < 19; i++) {
            is("5: a row of works", x.setPart(i, i + 1, 100), 100);
        }
        CHECK.refused("5: round through all", UNSUPPORTED, () -> x.setPart(19, 0, 1));
        is("5: not round from another one", x.setPart(19, 1, 1), 1);
        is("5: the row is cut", x.setPart(10, 11, 0), 0);
        is("5: no longer round", x.setPart(19, 0, 1), 2);
        is("5: the lowest work counts in the sum", x.setPart(19, 0, 7), 8);
        is("5: room for another one", x.setPart(2, 3, 0), 0);
        CHECK.refused("5: round by the lowest work", UNSUPPORTED, () -> x.setPart(2, 19, 1));
        CHECK.refused("5: round by a part of one", UNSUPPORTED, () -> x.setPart(1, 19, 1));
        refused("5: no such work", INDEX, y -> y.setPart(3, 0, 101));
        refused("5: no such inner work", INDEX, y -> y.setPart(0, 3, 1));
        refused("5: work -1", INDEX, y -> y.setPart(-1, 0, 1));
        refused("5: inner work -1", INDEX, y -> y.setPart(0, -1, 1));
        refused("5: part -1", ARGUMENT, y -> y.setPart(0, 2, -1));
        refused("5: part 101", ARGUMENT, y -> y.setPart(0, 0, 101));
        refused("5: a sum of 101", UNSUPPORTED, y -> y.setPart(0, 1, 81));
        refused("5: within itself", UNSUPPORTED, y -> y.setPart(0, 0, 1));
        refused("5: within itself by another one", UNSUPPORTED, y -> y.setPart(2, 0, 1));
        refused("5: within itself by two others", y -> {
            fillHouse(y);
            y.setPart(2, 1, 10);
        }, UNSUPPORTED, y -> y.setPart(1, 0, 1));
    }

    private static void partsShareOut() {
        House x = withHands(4);
        for (int i = 0; i < 4; i++) {
            x.addWork(1000);
            x.setShare(i, i, 100, 0);
        }
        x.nameOf(0, words(1));
        x.setPart(0, 1, 33);
        x.setPart(0, 2, 33);
        x.setPart(1, 3, 50);
        x.setPart(2, 3, 50);
        x.tariff('r', 0, 1);
        int use = radio(x, 101, 0);
        is("5: parts of the whole money, cut", x.share(use, 0), 35);
        is("5: what is left is the work's own", x.share(use, 1), 17);
        is("5: by another way", x.share(use, 2), 17);
        is("5: each way by itself", x.share(use, 3), 32);
        x.setPart(0, 1, 0);
        is("5: parts count as they are now", x.share(use, 0), 68);
        is("5: and its part is gone", x.share(use, 1), 0);
        is("5: one way is left", x.share(use, 3), 16);
        x.setPart(3, 0, 0);
        x.setPart(0, 2, 0);
        x.setPart(2, 0, 1);
        x.nameOf(2, words(2));
        int outer = x.use('r', 0, words(2), 199, 0);
        is("5: the lowest work within, a part of one coin", x.share(outer, 0), 1);
        is("5: half of the rest, ahead of a part of all", x.share(outer, 3), 99);
        is("5: the rest of the rest", x.share(outer, 2), 99);
    }

    private static void contractsTold() {
        House x = withHands(3);
        for (int i = 1; i <= 12; i++) {
            is("6: the number of contracts", x.assign(i % 3, (i + 1) % 3, i % 3, i == 1 ? 1 : 100, 0, i == 2 ? 0 : 999), i);
        }
        refused("6: no such hand", INDEX, y -> y.assign(4, 0, 3, 0, 1, 0));
        refused("6: hand -1", INDEX, y -> y.assign(-1, 0, 0, 1, 0, 0));
        refused("6: no such other hand", INDEX, y -> y.assign(0, 4, 0, 1, 0, 0));
        refused("6: other hand -1", INDEX, y -> y.assign(0, -1, 0, 1, 0, 0));
        refused("6: land -1", ARGUMENT, y -> y.assign(0, 1, -1, 1, 0, 0));
        refused("6: land 3", ARGUMENT, y -> y.assign(0, 1, 3, 1, 0, 0));
        refused("6: part 0", ARGUMENT, y -> y.assign(0, 1, 0, 0, 0, 0));
        refused("6: part 101", ARGUMENT, y -> y.assign(0, 1, 0, 101, 0, 0));
        refused("6: from day -1", ARGUMENT, y -> y.assign(0, 1, 0, 1, -1, 0));
        refused("6: till day 1000", ARGUMENT, y -> y.assign(0, 1, 0, 1, 0, 1000));
        refused("6: the last day ahead of the first one", ARGUMENT, y -> y.assign(0, 1, 0, 1, 6, 5));
        refused("6: the same hand", ARGUMENT, y -> y.assign(1, 1, 0, 1, 0, 5));
        Consumer<House> full = y -> {
            fillHouse(y);
            for (int i = 1; i < 12; i++) {
                y.assign(1, 2, 2, 5, 0, 999);
            }
        };
        refused("6: a 13th contract", full, STATE, y -> y.assign(0, 1, 0, 1, 0, 0));
        refused("6: a wrong 13th contract", full, ARGUMENT, y -> y.assign(0, 0, 0, 1, 0, 0));
    }

    private static void contractsHandOn() {
        House x = withOneWork(3);
        x.assign(0, 1, 0, 50, 10, 20);
        is("6: ahead of the first day", x.gets(radio(x, 10, 9), 1), 0);
        is("6: on the first day", x.gets(radio(x, 10, 10), 1), 50);
        is("6: on the last day", x.gets(radio(x, 10, 20), 1), 50);
        is("6: behind the last day", x.gets(radio(x, 10, 21), 1), 0);
        is("6: in another land", x.gets(x.use('r', 1, words(1), 10, 15), 1), 0);
        x.assign(0, 2, 0, 50, 15, 15);
        int use = radio(x, 10, 15);
        is("6: the second takes of what is left", x.gets(use, 2), 25);
        is("6: the rest is kept", x.gets(use, 0), 25);
        x.assign(1, 2, 0, 10, 0, 999);
        is("6: what was handed on goes on", x.gets(use, 1), 45);
        is("6: to whom it goes", x.gets(use, 2), 30);
        x.assign(2, 0, 0, 100, 0, 999);
        is("6: not back to where it came from", x.gets(use, 0), 25);
        is("6: nor further", x.gets(use, 2), 30);
        x.assign(2, 1, 0, 100, 0, 999);
        is("6: not back to a hand in between", x.gets(use, 2), 5);
        is("6: but where this money was not", x.gets(use, 1), 45 + 25);
        House two = withOneWork(2);
        two.assign(0, 1, 0, 33, 0, 999);
        two.assign(0, 1, 0, 33, 0, 999);
        two.tariff('r', 0, 1);
        int cut = radio(two, 10, 0);
        is("6: two contracts of the same hands, each cut", two.gets(cut, 1), 5);
        is("6: and the rest", two.gets(cut, 0), 5);
    }

    private static void advances() {
        House x = withOneWork(3);
        x.assign(0, 1, 2, 1, 500, 500);
        x.assign(0, 2, 2, 1, 500, 500);
        is("7: the first advance", x.advance(0, 1), 1);
        is("7: the second one", x.advance(0, 100000), 100001);
        is("7: another contract", x.advance(1, 40), 40);
        is("7: it is on the account", x.account(0), 100041);
        is("7: taken from the other one", x.account(1), -100001);
        is("7: and from the third one", x.account(2), -40);
        radio(x, 10, 0);
        x.period();
        is("7: what was paid pays back", x.notRecouped(0), 99901);
        is("7: what is not recouped now", x.advance(0, 9), 99910);
        refused("7: no such contract", INDEX, y -> y.advance(1, 0));
        refused("7: contract -1", INDEX, y -> y.advance(-1, 1));
        refused("7: money 0", ARGUMENT, y -> y.advance(0, 0));
        refused("7: money 100001", ARGUMENT, y -> y.advance(0, 100001));
    }

    // ---- promises 8 to 14

    private static void claims() {
        House x = withOneWork(2);
        x.addWork(1000);
        int before = radio(x, 10, 9);
        int from = radio(x, 10, 10);
        is("8: the number of a claim", x.claim(0, 1, 1, 10), 0);
        is("8: of the second one", x.claim(1, 0, 100, 0), 1);
        is("8: ahead of its day", x.held(before), 0);
        is("8: from its day on", x.held(from), 100);
        is("8: the share is as it was", x.shareOn(0, 1, 10), 0);
        for (int i = 2; i < 20; i++) {
            is("8: up to twenty", x.claim(1, 0, 1, 999), i);
        }
        refused("8: no such work", INDEX, y -> y.claim(3, 0, 0, 0));
        refused("8: work -1", INDEX, y -> y.claim(-1, 0, 1, 0));
        refused("8: no such hand", INDEX, y -> y.claim(0, 4, 1, 0));
        refused("8: hand -1", INDEX, y -> y.claim(0, -1, 1, 0));
        refused("8: share 0", ARGUMENT, y -> y.claim(0, 0, 0, 0));
        refused("8: share 101", ARGUMENT, y -> y.claim(0, 0, 101, 0));
        refused("8: day -1", ARGUMENT, y -> y.claim(0, 0, 1, -1));
        refused("8: day 1000", ARGUMENT, y -> y.claim(0, 0, 1, 1000));
        Consumer<House> full = y -> {
            fillHouse(y);
            for (int i = 1; i < 20; i++) {
                y.claim(1, 1, 1, 999);
            }
        };
        refused("8: a 21st claim", full, STATE, y -> y.claim(0, 0, 1, 0));
        refused("8: a wrong 21st claim", full, ARGUMENT, y -> y.claim(0, 0, 0, 0));
    }

    private static void decisions() {
        House x = withOneWork(3);
        int use = radio(x, 10, 20);
        x.period();
        int claim = x.claim(0, 1, 30, 10);
        is("9: in dispute nothing is shared", x.account(0), 0);
        is("9: nobody has less by a claim that falls", x.decide(claim, false), false);
        is("9: the share is as it was", x.shareOn(0, 1, 20), 0);
        is("9: and it is shared again", x.account(0), 100);
        int second = x.claim(0, 1, 30, 10);
        x.setShare(0, 0, 70, 15);
        x.setShare(0, 1, 5, 10);
        is("9: nobody has less by a claim that holds", x.decide(second, true), false);
        is("9: it is set from its day on", x.shareOn(0, 1, 9), 0);
        is("9: in place of what was set before", x.shareOn(0, 1, 10), 30);
        is("9: shared as decided", x.gets(use, 1), 30);
        is("9: and the rest", x.gets(use, 0), 70);
        x.setShare(0, 1, 6, 10);
        is("9: what is set later counts", x.shareOn(0, 1, 999), 6);
        House worse = withOneWork(2);
        radio(worse, 10, 20);
        worse.period();
        worse.claim(0, 1, 30, 21);
        is("9: a later claim takes nothing", worse.decide(0, true), false);
        House less = taxedByUses(0, 1);
        is("9: a hand may have less, as taxes are cut", less.decide(0, false), true);
        is("21: withheld of 2", less.tax(1), 1);
        is("9: and so may the lowest one", taxedByUses(1, 0).decide(0, false), true);
        is("9: it need not", taxedByUses(1, 0).decide(0, true), false);
        House owing = withOneWork(2);
        owing.assign(0, 1, 0, 1, 0, 0);
        owing.advance(0, 500);
        owing.claim(0, 1, 1, 0);
        is("9: less than nothing, but no less than before", owing.decide(0, true), false);
        refused("9: no such claim", INDEX, y -> y.decide(1, true));
        refused("9: claim -1", INDEX, y -> y.decide(-1, false));
        refused("9: decided", y -> {
            fillHouse(y);
            y.decide(0, false);
        }, UNSUPPORTED, y -> y.decide(0, true));
        refused("9: decided that it holds", y -> {
            fillHouse(y);
            y.decide(0, true);
        }, UNSUPPORTED, y -> y.decide(0, false));
    }

    /**
     * A hand with tax 50 is owed 2 by a debtor, who keeps 1 by each of two uses of work 1, so that it gets 1 and 1 and
     * pays no tax; once a claim on work 0 falls, whose use was told first and brings 2, it gets 2 at once and pays 1.
     */
    private static House taxedByUses(int debtor, int taxed) {
        House x = new House();
        x.addHand(false, taxed == 0 ? 50 : 0);
        x.addHand(false, taxed == 0 ? 0 : 50);
        for (int work = 0; work < 2; work++) {
            x.addWork(1000);
            x.setShare(work, debtor, 100, 0);
            x.nameOf(work, words(work + 1));
        }
        x.assign(debtor, taxed, 2, 1, 0, 0);
        x.advance(0, 2);
        x.tariff('r', 0, 1);
        x.use('r', 0, words(1), 2, 5);
        x.use('r', 0, words(2), 1, 5);
        x.use('r', 0, words(2), 1, 5);
        x.claim(0, taxed, 1, 0);
        x.period();
        is("21: nothing is withheld of 1", x.tax(taxed), 0);
        is("20: what was advanced and paid back", x.account(taxed), 0);
        return x;
    }

    private static void tariffs() {
        House x = withOneWork(1);
        for (char kind : new char[] {'r', 'c', 's'}) {
            for (int land = 0; land < 3; land++) {
                is("10: ten at first", x.tariff(kind, land, kind + land), 10);
            }
        }
        is("10: each by itself", x.tariff('c', 1, 0), 'c' + 1);
        is("10: down to 0", x.tariff('c', 1, 1000), 0);
        is("10: up to 1000", x.tariff('c', 1, 3), 1000);
        int use = x.use('c', 1, words(1), 200, 0);
        x.tariff('c', 1, 500);
        is("10: a use keeps its rate", x.gross(use), 6);
        is("10: the next one has the new rate", x.gross(x.use('c', 1, words(1), 200, 0)), 1000);
        refused("10: no such kind", ARGUMENT, y -> y.tariff('x', 0, 1));
        refused("10: a large letter", ARGUMENT, y -> y.tariff('R', 0, 1));
        refused("10: land -1", ARGUMENT, y -> y.tariff('r', -1, 1));
        refused("10: land 3", ARGUMENT, y -> y.tariff('r', 3, 1));
        refused("10: rate -1", ARGUMENT, y -> y.tariff('r', 0, -1));
        refused("10: rate 1001", ARGUMENT, y -> y.tariff('s', 2, 1001));
    }

    private static void usesTold() {
        House x = withOneWork(1);
        for (int i = 0; i < 60; i++) {
            is("11: the number of a use", x.use('r', i % 3, i == 0 ? 0 : i == 1 ? MAX : words(1), 1, 999 * (i % 2)), i);
            is("31: the number of uses", x.uses(), i + 1);
        }
        is("11: matched as it is told", x.matched(2), 0);
        is("11: or not", x.matched(0), -1);
        refused("11: no such kind", ARGUMENT, y -> y.use('x', 0, 1, 1, 0));
        refused("11: kind 0", ARGUMENT, y -> y.use('\0', 0, 1, 1, 0));
        refused("11: land -1", ARGUMENT, y -> y.use('r', -1, 1, 1, 0));
        refused("11: land 3", ARGUMENT, y -> y.use('r', 3, 1, 1, 0));
        refused("11: day -1", ARGUMENT, y -> y.use('r', 0, 1, 1, -1));
        refused("11: day 1000", ARGUMENT, y -> y.use('r', 0, 1, 1, 1000));
        refused("11: text -1", ARGUMENT, y -> y.use('r', 0, -1, 1, 0));
        refused("11: amount 0", ARGUMENT, y -> y.use('r', 0, 1, 0, 0));
        refused("11: amount 1000001", ARGUMENT, y -> y.use('r', 0, 1, 1000001, 0));
        Consumer<House> full = y -> {
            fillHouse(y);
            for (int i = 3; i < 60; i++) {
                y.use('r', 0, 1, 1, 0);
            }
        };
        refused("11: a 61st use", full, STATE, y -> y.use('r', 0, 1, 1, 0));
        refused("11: a wrong 61st use", full, ARGUMENT, y -> y.use('r', 0, 1, 0, 0));
    }

    private static void titles() {
        House x = new House();
        x.addWork(1000);
        x.addWork(1000);
        x.use('r', 0, words(1, 2), 1, 0);
        x.use('r', 0, words(2, 1), 1, 0);
        x.use('r', 0, words(5, 6), 1, 0);
        is("12: no use is like that", x.nameOf(0, words(9)), 0);
        is("12: two uses are", x.nameOf(0, words(2, 1, 7)), 2);
        is("12: those known stay as they are", x.nameOf(1, words(1, 2)), 0);
        is("12: of the first work", x.matched(0), 0);
        is("12: a title without words", x.nameOf(0, 0), 0);
        is("12: one use more", x.nameOf(1, words(5, 6)), 1);
        is("12: of the second work", x.matched(2), 1);
        is("12: a third title", x.nameOf(1, MAX), 0);
        refused("12: no such work", INDEX, y -> y.nameOf(3, -1));
        refused("12: work -1", INDEX, y -> y.nameOf(-1, 1));
        refused("12: text -1", ARGUMENT, y -> y.nameOf(0, -1));
        refused("12: text at the least int", ARGUMENT, y -> y.nameOf(0, MIN));
        Consumer<House> full = y -> {
            fillHouse(y);
            y.nameOf(0, 7);
            y.nameOf(0, 7);
        };
        refused("12: a fourth title", full, STATE, y -> y.nameOf(0, words(9, 9)));
        refused("12: a wrong fourth title", full, ARGUMENT, y -> y.nameOf(0, -1));
    }

    private static void matching() {
        House x = new House();
        for (int i = 0; i < 3; i++) {
            x.addWork(1000);
        }
        x.nameOf(1, words(1, 2, 3));
        x.nameOf(2, words(1, 2, 3));
        is("13: of several the lowest one", x.matched(x.use('r', 0, words(3, 2, 1), 1, 0)), 1);
        x.nameOf(2, words(1, 2, 3, 4));
        is("13: the greatest likeness", x.matched(x.use('r', 0, words(1, 2, 3, 4), 1, 0)), 2);
        is("13: at least 60", x.matched(x.use('r', 0, words(1, 2, 8, 8, 9, 0), 1, 0)), -1);
        x.nameOf(0, words(20, 21, 22, 23, 24));
        int just = x.use('r', 0, words(20, 21, 22, 30, 31), 1, 0);
        is("14: sixty", x.likeness(just, 0), 60);
        is("13: sixty is enough", x.matched(just), 0);
        int below = x.use('r', 0, words(20, 21, 0, 30, 0), 1, 0);
        is("14: fifty", x.likeness(below, 0), 50);
        is("13: less is not", x.matched(below), -1);
        refused("13: no such use", INDEX, y -> y.matched(3));
        refused("13: use -1", INDEX, y -> y.matched(-1));
    }

    private static void likeness() {
        House x = new House();
        x.addWork(1000);
        x.addWork(1000);
        int use = x.use('r', 0, words(7, 7, 8), 1, 0);
        int none = x.use('r', 0, 0, 1, 0);
        is("14: without titles", x.likeness(use, 0), 0);
        x.nameOf(0, words(7));
        is("14: one of one and three", x.likeness(use, 0), 50);
        x.nameOf(0, words(7, 7, 7));
        is("14: each as often as both have it", x.likeness(use, 0), 66);
        x.nameOf(0, words(9));
        is("14: the greatest of all titles", x.likeness(use, 0), 66);
        x.nameOf(1, words(8, 0, 7, 0, 7));
        is("14: the same words in another order", x.likeness(use, 1), 100);
        is("14: no words and some", x.likeness(none, 0), 0);
        x.nameOf(1, 0);
        is("14: both without words", x.likeness(none, 1), 0);
        x.nameOf(1, MAX);
        is("14: six words", x.likeness(x.use('r', 0, MAX, 1, 0), 1), 100);
        is("14: the sixth word is 1", x.likeness(x.use('r', 0, 1 << 30, 1, 0), 1), 28);
        is("14: five of the same words", x.likeness(x.use('r', 0, MAX >> 6, 1, 0), 1), 200 * 5 / 11);
        refused("14: no such use", INDEX, y -> y.likeness(3, 0));
        refused("14: use -1", INDEX, y -> y.likeness(-1, 0));
        refused("14: no such work", INDEX, y -> y.likeness(0, 3));
        refused("14: work -1", INDEX, y -> y.likeness(0, -1));
    }

    // ---- promises 15 to 22

    private static void gross() {
        House x = withOneWork(1);
        is("15: minutes", x.gross(x.use('r', 0, 1, 7, 0)), 70);
        is("15: takings, cut", x.gross(x.use('c', 0, 1, 1239, 0)), 123);
        is("15: streams, cut", x.gross(x.use('s', 0, 1, 1299, 0)), 12);
        is("15: too few streams", x.gross(x.use('s', 0, 1, 99, 0)), 0);
        for (char kind : new char[] {'r', 'c', 's'}) {
            x.tariff(kind, 2, 1000);
        }
        is("15: the most for radio", x.gross(x.use('r', 2, 1, 1000000, 0)), 1000000000L);
        is("15: the most for a concert", x.gross(x.use('c', 2, 1, 1000000, 0)), 10000000L);
        is("15: the most for streams", x.gross(x.use('s', 2, 1, 1000000, 0)), 1000000L);
        refused("15: no such use", INDEX, y -> y.gross(3));
        refused("15: use -1", INDEX, y -> y.gross(-1));
    }

    private static void sharesOfUses() {
        House x = withHands(3);
        x.addWork(1000);
        x.nameOf(0, words(1));
        x.setShare(0, 0, 33, 0);
        x.setShare(0, 1, 66, 10);
        x.tariff('r', 0, 1);
        int use = radio(x, 199, 10);
        int earlier = radio(x, 199, 9);
        int unknown = x.use('r', 0, words(50), 10, 10);
        is("16: cut", x.share(use, 0), 65);
        is("16: each by itself", x.share(use, 1), 131);
        is("16: without a share", x.share(use, 2), 0);
        is("16: ahead of its day", x.share(earlier, 1), 0);
        is("16: of a work that is not known", x.share(unknown, 0), 0);
        x.assign(0, 2, 0, 100, 0, 999);
        is("16: ahead of contracts", x.share(use, 0), 65);
        is("16: what comes by contracts does not count", x.share(use, 2), 0);
        x.setShare(0, 0, 34, 5);
        x.setShare(0, 0, 1, 4);
        is("16: the latest day counts, not the last setting", x.share(use, 0), 67);
        refused("16: no such use", INDEX, y -> y.share(3, 0));
        refused("16: use -1", INDEX, y -> y.share(-1, 0));
        refused("16: no such hand", INDEX, y -> y.share(0, 4));
        refused("16: hand -1", INDEX, y -> y.share(0, -1));
    }

    private static void heldAndOpen() {
        House x = withHands(2);
        x.addHand(true, 0);
        x.addWork(20);
        x.addWork(1000);
        x.nameOf(0, words(1));
        x.setPart(0, 1, 40);
        x.setShare(0, 0, 90, 0);
        x.setShare(1, 1, 70, 0);
        int use = radio(x, 10, 19);
        is("18: what is left of the shares", x.open(use), 6 + 12);
        is("17: nothing in dispute", x.held(use), 0);
        x.claim(0, 1, 5, 0);
        is("17: the work's own money", x.held(use), 60);
        is("17: not that of the work within", x.share(use, 1), 28);
        is("18: the other work's rest", x.open(use), 12);
        int ended = radio(x, 10, 20);
        is("17: nobody has rights, so none in dispute", x.held(ended), 0);
        is("18: its own money is open", x.open(ended), 60 + 12);
        is("16: the work within has rights", x.share(ended, 1), 28);
        x.claim(1, 0, 5, 20);
        is("17: the inner work alone", x.held(ended), 40);
        is("33: what is held of all", x.holds(), 100);
        is("32: what nobody has of all", x.pot(), 72);
        x.decide(0, false);
        x.decide(1, false);
        x.assign(0, 2, 0, 50, 0, 999);
        is("18: what is left with a society", x.open(use), 18 + 27);
        x.assign(2, 1, 0, 50, 0, 999);
        is("18: what the society hands on is not open", x.open(use), 18 + 14);
        int unknown = x.use('r', 0, words(50), 7, 10);
        is("18: a work that is not known", x.open(unknown), 70);
        x.setShare(0, 1, 10, 0);
        is("17: a hundred together", x.held(use), 0);
        x.setShare(0, 0, 91, 0);
        is("17: more than a hundred together", x.held(use), 60);
        is("17: on a day from which nobody has rights", x.held(ended), 0);
        refused("17: no such use", INDEX, y -> y.held(3));
        refused("17: use -1", INDEX, y -> y.held(-1));
        refused("18: no such use", INDEX, y -> y.open(3));
        refused("18: use -1", INDEX, y -> y.open(-1));
    }

    private static void gets() {
        House x = withOneWork(2);
        x.addHand(true, 0);
        int use = radio(x, 1, 0);
        x.assign(0, 1, 0, 35, 0, 999);
        is("19: cut", x.gets(use, 1), 3);
        is("19: what is left", x.gets(use, 0), 7);
        x.assign(0, 2, 0, 50, 0, 999);
        is("19: a society keeps nothing", x.gets(use, 2), 0);
        is("19: of what is left, cut", x.gets(use, 0), 4);
        x.advance(0, 4);
        x.period();
        is("19: ahead of what is recouped", x.gets(use, 0), 4);
        x.setShare(0, 0, 70, 0);
        x.setShare(0, 1, 30, 0);
        is("19: by the own share and by contracts", x.gets(use, 1), 3 + 2);
        refused("19: no such use", INDEX, y -> y.gets(3, 0));
        refused("19: use -1", INDEX, y -> y.gets(-1, 0));
        refused("19: no such hand", INDEX, y -> y.gets(0, 4));
        refused("19: hand -1", INDEX, y -> y.gets(0, -1));
    }

    private static void accounts() {
        House x = new House();
        x.addHand(false, 33);
        x.addWork(1000);
        x.setShare(0, 0, 100, 0);
        x.nameOf(0, words(1));
        x.tariff('r', 0, 1);
        radio(x, 5, 0);
        is("20: nothing ahead of a period", x.account(0), 0);
        is("21: nothing withheld", x.tax(0), 0);
        x.period();
        is("20: less taxes", x.account(0), 4);
        is("21: a third, cut", x.tax(0), 1);
        radio(x, 5, 0);
        is("20: the next one is not paid", x.account(0), 4);
        x.period();
        is("21: cut for each use", x.tax(0), 2);
        is("20: both uses", x.account(0), 8);
        x.setShare(0, 0, 60, 0);
        is("21: as they would be shared now", x.tax(0), 0);
        is("20: as they would be shared now", x.account(0), 6);
        refused("20: no such hand", INDEX, y -> y.account(4));
        refused("20: hand -1", INDEX, y -> y.account(-1));
        refused("21: no such hand", INDEX, y -> y.tax(4));
        refused("21: hand -1", INDEX, y -> y.tax(-1));
    }

    private static void recouping() {
        House x = new House();
        x.addHand(false, 10);
        x.addHand(false, 50);
        x.addHand(true, 20);
        x.addWork(1000);
        x.setShare(0, 0, 60, 0);
        x.setShare(0, 1, 40, 0);
        x.nameOf(0, words(1));
        x.assign(0, 2, 1, 1, 900, 900);
        x.assign(0, 1, 2, 1, 900, 900);
        x.advance(1, 50);
        x.advance(0, 30);
        radio(x, 10, 5);
        x.period();
        is("22: the lowest contract first", x.notRecouped(0), 0);
        is("22: then the next one", x.notRecouped(1), 20);
        is("20: all that it keeps pays back", x.account(0), 80);
        is("20: what comes so is the other one's own", x.account(1), -50 + (40 + 30) - 35);
        is("21: taxed together with what it keeps", x.tax(1), 35);
        is("20: to a society too", x.account(2), -30 + 30 - 6);
        is("21: which is taxed", x.tax(2), 6);
        radio(x, 10, 5);
        x.period();
        is("22: all is recouped", x.notRecouped(1), 0);
        is("20: the rest is its own", x.account(0), 80 + 40 - 4);
        is("21: the rest is taxed", x.tax(0), 4);
        x.advance(0, 45);
        is("20: an advance counts against all that was paid", x.notRecouped(0), 0);
        is("22: and the next one waits", x.notRecouped(1), 5);
    }

    private static void notRecouped() {
        House x = withOneWork(2);
        x.assign(0, 1, 0, 50, 0, 999);
        is("22: without advances", x.notRecouped(0), 0);
        x.advance(0, 70);
        radio(x, 10, 0);
        is("22: ahead of a period", x.notRecouped(0), 70);
        x.period();
        is("22: what it keeps counts, not what it hands on", x.notRecouped(0), 20);
        x.claim(0, 1, 1, 0);
        is("22: in dispute nothing is recouped", x.notRecouped(0), 70);
        refused("22: no such contract", INDEX, y -> y.notRecouped(1));
        refused("22: contract -1", INDEX, y -> y.notRecouped(-1));
    }

    // ---- promises 23 to 29

    private static void periods() {
        House x = withOneWork(1);
        radio(x, 1, 999);
        x.use('r', 0, words(50), 1, 0);
        CHECK.refused("24: not paid", NO_ELEMENT, () -> x.paidIn(0));
        is("23: all uses, known or not", x.period(), 2);
        is("23: none", x.period(), 0);
        radio(x, 1, 0);
        is("23: those not paid", x.period(), 1);
        is("24: the first period", x.paidIn(0), 0);
        is("24: of a use that is not known", x.paidIn(1), 0);
        is("24: the third period", x.paidIn(2), 2);
        is("20: a use that becomes known later counts", x.account(0) + x.nameOf(0, words(50)) + x.account(0), 20 + 1 + 30);
        for (int i = 3; i < 30; i++) {
            is("23: up to thirty", x.period(), 0);
        }
        CHECK.refused("23: a 31st period", STATE, x::period);
        Consumer<House> full = y -> {
            fillHouse(y);
            for (int i = 1; i < 30; i++) {
                y.period();
            }
            y.use('r', 0, words(1, 2), 5, 0);
        };
        refused("23: a 31st period", full, STATE, House::period);
        refused("24: not paid", NO_ELEMENT, y -> y.paidIn(2));
        refused("24: no such use", INDEX, y -> y.paidIn(3));
        refused("24: use -1", INDEX, y -> y.paidIn(-1));
    }

    private static void statements() {
        House x = withOneWork(2);
        radio(x, 10, 0);
        x.period();
        radio(x, 1, 0);
        x.period();
        is("25: the first period", x.statement(0, 0), 100);
        is("25: the second one", x.statement(1, 0), 10);
        x.setShare(0, 0, 50, 0);
        x.setShare(0, 1, 50, 0);
        is("25: a statement stays", x.statement(0, 0), 100);
        x.period();
        is("25: a correction", x.statement(2, 0), -55);
        is("25: the other hand", x.statement(2, 1), 55);
        x.addHand(false, 0);
        is("25: a hand that came later", x.statement(2, 2), 0);
        x.assign(0, 2, 0, 1, 0, 0);
        x.advance(0, 3);
        x.period();
        is("25: an advance that was recouped at once", x.statement(3, 0), 0);
        refused("25: no such period", INDEX, y -> y.statement(1, 0));
        refused("25: period -1", INDEX, y -> y.statement(-1, 0));
        refused("25: no such hand", INDEX, y -> y.statement(0, 4));
        refused("25: hand -1", INDEX, y -> y.statement(0, -1));
    }

    private static void chains() {
        House x = withOneWork(5);
        x.assign(1, 3, 0, 50, 0, 999);
        x.assign(0, 2, 0, 50, 0, 999);
        x.assign(0, 1, 0, 50, 0, 999);
        x.assign(2, 3, 0, 50, 0, 999);
        int use = radio(x, 10, 0);
        is("26: the hand of the share", x.chain(use, 0), 1);
        is("27: is its only one", x.chainAt(use, 0, 0), 0);
        is("26: two hands", x.chain(use, 1), 2);
        is("26: the first of two ways", x.chain(use, 3), 3);
        is("27: the hand of the share first", x.chainAt(use, 3, 0), 0);
        is("27: by the lower contract", x.chainAt(use, 3, 1), 2);
        is("27: the hand itself last", x.chainAt(use, 3, 2), 3);
        x.setShare(0, 0, 50, 0);
        x.setShare(0, 1, 50, 0);
        is("26: ways of the lowest hand first", x.chain(use, 3), 3);
        x.setShare(0, 0, 0, 0);
        is("26: of those that have a share", x.chain(use, 3), 2);
        is("27: another first hand", x.chainAt(use, 3, 0), 1);
        House tiny = withOneWork(4);
        tiny.assign(0, 1, 0, 10, 0, 999);
        tiny.assign(1, 2, 0, 50, 0, 999);
        tiny.assign(0, 2, 0, 50, 0, 999);
        tiny.tariff('r', 0, 1);
        is("26: a way on which it keeps nothing is none", tiny.chain(radio(tiny, 10, 0), 2), 2);
        longestChain();
        Consumer<House> handsOnAll = y -> {
            fillHouse(y);
            y.assign(1, 2, 1, 100, 0, 999);
            y.nameOf(1, 1);
        };
        refused("26: a hand that keeps nothing", handsOnAll, NO_ELEMENT, y -> y.chain(1, 1));
        refused("26: a society", NO_ELEMENT, y -> y.chain(0, 3));
        refused("26: a use that is not known", NO_ELEMENT, y -> y.chain(2, 0));
        refused("26: no such use", INDEX, y -> y.chain(3, 0));
        refused("26: use -1", INDEX, y -> y.chain(-1, 0));
        refused("26: no such hand", INDEX, y -> y.chain(0, 4));
        refused("26: hand -1", INDEX, y -> y.chain(0, -1));
        refused("27: a society", NO_ELEMENT, y -> y.chainAt(0, 3, 0));
        refused("27: place -1", NO_ELEMENT, y -> y.chainAt(0, 0, -1));
        refused("27: behind the last place", NO_ELEMENT, y -> y.chainAt(0, 0, 1));
        refused("27: a place far off", NO_ELEMENT, y -> y.chainAt(0, 0, MAX));
        refused("27: no such use", INDEX, y -> y.chainAt(3, 0, -1));
        refused("27: use -1", INDEX, y -> y.chainAt(-1, 0, 0));
        refused("27: no such hand", INDEX, y -> y.chainAt(0, 4, 0));
        refused("27: hand -1", INDEX, y -> y.chainAt(0, -1, 0));
    }

    /** Twelve contracts one behind the other, between the highest hands. */
    private static void longestChain() {
        House x = withHands(16);
        x.addWork(1000);
        x.nameOf(0, words(1));
        x.setShare(0, 15, 100, 0);
        for (int i = 0; i < 12; i++) {
            x.assign(15 - i, 14 - i, 0, 100, 0, 999);
        }
        int use = radio(x, 10, 0);
        is("26: thirteen hands", x.chain(use, 3), 13);
        x.tariff('r', 0, 1);
        is("26: of a single coin too", x.chain(radio(x, 1, 0), 3), 13);
        for (int i = 0; i < 13; i++) {
            is("27: each of them", x.chainAt(use, 3, i), 15 - i);
        }
    }

    private static void sharesOnDays() {
        House x = withHands(2);
        x.addWork(1000);
        x.setShare(0, 0, 40, 10);
        x.setShare(0, 0, 60, 20);
        x.setShare(0, 0, 50, 20);
        x.setShare(0, 0, 30, 0);
        is("28: the first day", x.shareOn(0, 0, 0), 30);
        is("28: up to the next one", x.shareOn(0, 0, 9), 30);
        is("28: from a day on", x.shareOn(0, 0, 10), 40);
        is("28: the last set for one day", x.shareOn(0, 0, 20), 50);
        is("28: the last day", x.shareOn(0, 0, 999), 50);
        is("28: without any", x.shareOn(0, 1, 999), 0);
        refused("28: no such work", INDEX, y -> y.shareOn(3, 0, -1));
        refused("28: work -1", INDEX, y -> y.shareOn(-1, 0, 0));
        refused("28: no such hand", INDEX, y -> y.shareOn(0, 4, 0));
        refused("28: hand -1", INDEX, y -> y.shareOn(0, -1, 1000));
        refused("28: day -1", ARGUMENT, y -> y.shareOn(0, 0, -1));
        refused("28: day 1000", ARGUMENT, y -> y.shareOn(0, 0, 1000));
    }

    private static void disputes() {
        House x = withHands(2);
        x.addWork(10);
        x.addWork(1000);
        x.setShare(0, 0, 100, 0);
        is("29: a hundred is right", x.isDisputed(0, 999), false);
        is("29: on the first day too", x.isDisputed(0, 0), false);
        x.setShare(0, 1, 1, 20);
        is("29: ahead of the day", x.isDisputed(0, 19), false);
        is("29: more than a hundred, with or without rights", x.isDisputed(0, 20), true);
        x.setShare(0, 0, 99, 30);
        is("29: no longer", x.isDisputed(0, 30), false);
        x.claim(1, 0, 1, 5);
        x.claim(1, 0, 1, 7);
        is("29: ahead of the claim", x.isDisputed(1, 4), false);
        is("29: from the claim on", x.isDisputed(1, 5), true);
        is("29: another work is not", x.isDisputed(0, 5), false);
        x.decide(0, false);
        is("29: decided", x.isDisputed(1, 6), false);
        is("29: the other claim is not", x.isDisputed(1, 7), true);
        refused("29: no such work", INDEX, y -> y.isDisputed(3, -1));
        refused("29: work -1", INDEX, y -> y.isDisputed(-1, 0));
        refused("29: day -1", ARGUMENT, y -> y.isDisputed(0, -1));
        refused("29: day 1000", ARGUMENT, y -> y.isDisputed(0, 1000));
    }

    // ---- promises 30 to 36

    private static void figures() {
        House x = filled();
        is("30: works", x.works(), 3);
        is("31: uses", x.uses(), 3);
        is("32: the pot, paid or not", x.pot(), 160 + 400 + 50);
        is("33: no holds", x.holds(), 0);
        x.claim(0, 0, 1, 0);
        x.claim(1, 0, 1, 0);
        is("33: the holds", x.holds(), 1600 + 1234);
        is("32: the pot without them", x.pot(), 400 + 50);
        is("15: together they are all", x.gross(0) + x.gross(1) + x.gross(2), 2000 + 1234 + 50);
    }

    private static void bits() {
        House x = withOneWork(1);
        CHECK.refused("34: no uses", ArithmeticException.class, x::knownBits);
        CHECK.refused("35: no uses", ArithmeticException.class, x::meanBits);
        long sum = 0;
        int known = 0;
        int[] amounts = {1, 1000000, 3, 77777, 12, 5, 999999, 31};
        for (int i = 0; i < 60; i++) {
            x.tariff('r', 0, i == 0 ? 0 : i * 16);
            boolean isKnown = i > 0 && i % 3 != 0;
            x.use('r', 0, isKnown ? words(1) : words(40), amounts[i % 8], 0);
            sum += (i == 0 ? 0L : i * 16L) * amounts[i % 8];
            known += isKnown ? 1 : 0;
            is("34: known of " + (i + 1), x.knownBits(), Float.floatToIntBits((float) known / (float) (i + 1)));
            is("35: mean of " + (i + 1), x.meanBits(), Double.doubleToLongBits((double) sum / (double) (i + 1)));
        }
        House little = withOneWork(1);
        little.use('s', 0, words(40), 100, 0);
        for (int i = 1; i <= 59; i++) {
            is("35: one coin of " + i + " uses", little.meanBits(), Double.doubleToLongBits(1.0 / i));
            little.use('s', 0, words(40), 99, 0);
        }
        House all = withOneWork(1);
        radio(all, 1, 0);
        is("34: all are known", all.knownBits(), 0x3f800000);
        is("35: ten", all.meanBits(), 0x4024000000000000L);
        House most = withOneWork(1);
        most.tariff('r', 0, 1000);
        radio(most, 1000000, 0);
        is("35: the most", most.meanBits(), Double.doubleToLongBits(1e9));
        refused("34: no uses", y -> y.addWork(5), ArithmeticException.class, House::knownBits);
        refused("35: no uses", y -> y.addWork(5), ArithmeticException.class, House::meanBits);
    }

    private static void soundness() {
        House x = filled();
        is("36: sound", x.isSound(), true);
        x.claim(0, 1, 50, 0);
        is("36: in dispute", x.isSound(), true);
        x.period();
        x.decide(1, true);
        is("36: decided, ahead of the next period", x.isSound(), true);
        for (int use = 0; use < 3; use++) {
            long sum = x.held(use) + x.open(use);
            for (int hand = 0; hand < 4; hand++) {
                sum += x.gets(use, hand);
            }
            is("36: what came in is told", sum, x.gross(use));
        }
        x.period();
        for (int hand = 0; hand < 4; hand++) {
            long sum = x.statement(0, hand) + x.statement(1, hand) + x.statement(2, hand);
            is("36: statements add up", sum, x.account(hand));
        }
    }

    /** The least and the greatest int in each place: never anything but what the document names. */
    private static void allCallsRefuseWrongNumbers() {
        for (int n : new int[] {MIN, MAX}) {
            refused("4 at " + n, INDEX, y -> y.setShare(n, n, n, n));
            refused("5 at " + n, INDEX, y -> y.setPart(n, n, n));
            refused("5 part " + n, ARGUMENT, y -> y.setPart(0, 1, n));
            refused("6 at " + n, INDEX, y -> y.assign(n, n, n, n, n, n));
            refused("6 terms " + n, ARGUMENT, y -> y.assign(0, 1, n, n, n, n));
            refused("7 at " + n, INDEX, y -> y.advance(n, n));
            refused("7 money " + n, ARGUMENT, y -> y.advance(0, n));
            refused("8 at " + n, INDEX, y -> y.claim(n, n, n, n));
            refused("9 at " + n, INDEX, y -> y.decide(n, true));
            refused("10 at " + n, ARGUMENT, y -> y.tariff('r', n, n));
            refused("10 rate " + n, ARGUMENT, y -> y.tariff('r', 0, n));
            refused("11 at " + n, ARGUMENT, y -> y.use('r', n, n, n, n));
            refused("11 amount " + n, ARGUMENT, y -> y.use('r', 0, 0, n, 0));
            refused("12 at " + n, INDEX, y -> y.nameOf(n, n));
            refused("25 at " + n, INDEX, y -> y.statement(n, n));
            refused("27 at " + n, INDEX, y -> y.chainAt(n, n, n));
            refused("27 place " + n, NO_ELEMENT, y -> y.chainAt(0, 0, n));
            refused("29 day " + n, ARGUMENT, y -> y.isDisputed(0, n));
        }
    }
}
