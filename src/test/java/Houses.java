import java.util.function.Consumer;

/** The houses on which edges are tried: how they are made, and how much is in them. */
final class Houses {
    static final int MAX = Integer.MAX_VALUE;

    /** How a house is made; the counts tell up to which numbers it is worth asking. */
    record SetUp(String name, int hands, int works, int uses, Consumer<House> maker) {
        House make() {
            House x = new House();
            maker.accept(x);
            return x;
        }

        SetUp with(String more, Consumer<House> change) {
            return new SetUp(name + more, hands, works, uses, maker.andThen(change));
        }
    }

    static final SetUp EMPTY = new SetUp("a new object", 0, 0, 0, x -> { });
    static final SetUp FILLED = new SetUp("a filled house", 5, 4, 4, Houses::fill);
    static final SetUp PAID = FILLED.with(", all paid", House::period);
    static final SetUp CHANGED = FILLED.with(", changed behind its periods", Houses::change);
    static final SetUp FULL_HANDS = new SetUp("16 hands", 16, 4, 4, FILLED.maker.andThen(Houses::fillHands));
    static final SetUp FULL_WORKS = new SetUp("20 works", 5, 20, 4, FILLED.maker.andThen(Houses::fillWorks));
    static final SetUp FULL_TITLES = FILLED.with(", 3 titles", x -> fillTitles(x, 0, 2));
    static final SetUp FULL_CONTRACTS = FILLED.with(", 12 contracts", Houses::fillContracts);
    static final SetUp FULL_CLAIMS = FILLED.with(", 20 claims", Houses::fillClaims);
    static final SetUp FULL_USES = new SetUp("60 uses", 5, 4, 60, FILLED.maker.andThen(Houses::fillUses));
    static final SetUp FULL_PERIODS = FILLED.with(", 30 periods", Houses::fillPeriods);
    static final SetUp ALL_FULL = new SetUp("all full", 16, 20, 60, Houses::fillAll);

    private Houses() {
    }

    /** A text of some words, each 0 to 63, the last one in the lowest digit. */
    static int words(int... words) {
        int text = 0;
        for (int word : words) {
            text = text * 64 + word;
        }
        return text;
    }

    static House withHands(int many) {
        House x = new House();
        for (int i = 0; i < many; i++) {
            x.addHand(false, 0);
        }
        return x;
    }

    /** Hands without taxes and one work, named words(1), of which hand 0 has all; a minute on the radio is one coin. */
    static House withOneWork(int hands) {
        House x = withHands(hands);
        x.addWork(1000);
        x.setShare(0, 0, 100, 0);
        x.nameOf(0, words(1));
        x.tariff('r', 0, 1);
        return x;
    }

    static int radio(House x, int minutes, int day) {
        return x.use('r', 0, words(1), minutes, day);
    }

    /** Five hands (3 is a society), four works, two contracts, three claims (1 is decided), four uses, two periods. */
    private static void fill(House x) {
        x.addHand(false, 10);
        x.addHand(false, 0);
        x.addHand(false, 50);
        x.addHand(true, 9);
        x.addHand(false, 25);
        x.addWork(1000);
        x.addWork(10);
        x.addWork(1000);
        x.addWork(1000);
        x.setShare(0, 0, 50, 0);
        x.setShare(0, 1, 30, 5);
        x.setShare(0, 4, 10, 0);
        x.setShare(1, 1, 100, 0);
        x.setShare(2, 3, 100, 0);
        x.setShare(3, 2, 60, 0);
        x.setShare(3, 2, 40, 6);
        x.setPart(0, 2, 20);
        x.nameOf(0, words(1, 2));
        x.nameOf(1, words(3, 4));
        x.assign(0, 2, 0, 25, 0, 999);
        x.assign(4, 1, 1, 50, 5, 10);
        x.advance(0, 700);
        x.advance(1, 60);
        x.claim(2, 2, 40, 10);
        x.claim(3, 1, 10, 0);
        x.decide(1, false);
        x.claim(3, 0, 30, 900);
        x.tariff('r', 0, 20);
        x.use('r', 0, words(1, 2), 100, 7);
        x.use('c', 1, words(3, 4), 12345, 9);
        x.period();
        x.use('s', 2, words(9, 9), 5000, 10);
        x.period();
        x.use('r', 1, words(1, 2), 50, 8);
    }

    /** Changes what was paid: shares, parts, contracts, claims, titles, and what is advanced; nothing asks in between. */
    private static void change(House x) {
        x.setShare(0, 0, 45, 3);
        x.setShare(0, 1, 40, 8);
        x.setPart(0, 2, 30);
        x.setPart(0, 3, 5);
        x.assign(1, 4, 0, 50, 0, 999);
        x.assign(2, 1, 0, 10, 7, 7);
        x.nameOf(2, words(9, 9));
        x.advance(2, 90);
        x.decide(0, true);
        x.claim(1, 0, 5, 9);
        x.setShare(0, 4, 12, 2);
    }

    static void fillHands(House x) {
        for (int hand = 5; hand < 16; hand++) {
            x.addHand(hand % 4 == 3, hand);
        }
    }

    static void fillWorks(House x) {
        for (int work = 4; work < 20; work++) {
            x.addWork(1000);
        }
    }

    static void fillTitles(House x, int work, int many) {
        for (int i = 0; i < many; i++) {
            x.nameOf(work, words(30 + i));
        }
    }

    static void fillContracts(House x) {
        for (int contract = 2; contract < 12; contract++) {
            x.assign(1, 2, 2, 5, 0, 999);
        }
    }

    static void fillClaims(House x) {
        for (int claim = 3; claim < 20; claim++) {
            x.claim(1, 1, 1, 999);
        }
    }

    static void fillUses(House x) {
        for (int use = 4; use < 60; use++) {
            x.use("rcs".charAt(use % 3), use % 2, use % 4 == 0 ? words(40) : words(1, 2), 1000, 8);
        }
    }

    static void fillPeriods(House x) {
        for (int period = 2; period < 30; period++) {
            x.period();
        }
        // So that a period that is refused has something that it would have paid.
        x.use('r', 0, words(1, 2), 5, 7);
    }

    private static void fillAll(House x) {
        fill(x);
        fillHands(x);
        fillWorks(x);
        fillTitles(x, 0, 2);
        fillTitles(x, 1, 2);
        for (int work = 2; work < 20; work++) {
            fillTitles(x, work, 3);
        }
        fillContracts(x);
        fillClaims(x);
        for (int period = 2; period < 30; period++) {
            x.period();
        }
        fillUses(x);
    }
}
