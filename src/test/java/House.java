/** A RoyalTree whose calls are counted: an object is promised for 512 of them, and no test may lean on more. */
final class House {
    private static final int PROMISED_CALLS = 512;

    private final RoyalTree tree = new RoyalTree();
    private int calls = 0;

    private RoyalTree counted() {
        calls++;
        if (calls > PROMISED_CALLS) {
            throw new AssertionError("a test makes more calls than are promised");
        }
        return tree;
    }

    int addHand(boolean isSociety, int tax) {
        return counted().addHand(isSociety, tax);
    }

    int addWork(int ends) {
        return counted().addWork(ends);
    }

    int setShare(int work, int hand, int share, int day) {
        return counted().setShare(work, hand, share, day);
    }

    int setPart(int work, int inner, int part) {
        return counted().setPart(work, inner, part);
    }

    int assign(int hand, int to, int land, int part, int from, int till) {
        return counted().assign(hand, to, land, part, from, till);
    }

    int advance(int contract, int money) {
        return counted().advance(contract, money);
    }

    int claim(int work, int hand, int share, int day) {
        return counted().claim(work, hand, share, day);
    }

    boolean decide(int claim, boolean holds) {
        return counted().decide(claim, holds);
    }

    int tariff(char kind, int land, int rate) {
        return counted().tariff(kind, land, rate);
    }

    int use(char kind, int land, int text, int amount, int day) {
        return counted().use(kind, land, text, amount, day);
    }

    int nameOf(int work, int text) {
        return counted().nameOf(work, text);
    }

    int matched(int use) {
        return counted().matched(use);
    }

    int likeness(int use, int work) {
        return counted().likeness(use, work);
    }

    long gross(int use) {
        return counted().gross(use);
    }

    long share(int use, int hand) {
        return counted().share(use, hand);
    }

    long held(int use) {
        return counted().held(use);
    }

    long open(int use) {
        return counted().open(use);
    }

    long gets(int use, int hand) {
        return counted().gets(use, hand);
    }

    long account(int hand) {
        return counted().account(hand);
    }

    long tax(int hand) {
        return counted().tax(hand);
    }

    int notRecouped(int contract) {
        return counted().notRecouped(contract);
    }

    int period() {
        return counted().period();
    }

    int paidIn(int use) {
        return counted().paidIn(use);
    }

    long statement(int period, int hand) {
        return counted().statement(period, hand);
    }

    int chain(int use, int hand) {
        return counted().chain(use, hand);
    }

    int chainAt(int use, int hand, int index) {
        return counted().chainAt(use, hand, index);
    }

    int shareOn(int work, int hand, int day) {
        return counted().shareOn(work, hand, day);
    }

    boolean isDisputed(int work, int day) {
        return counted().isDisputed(work, day);
    }

    int works() {
        return counted().works();
    }

    int uses() {
        return counted().uses();
    }

    long pot() {
        return counted().pot();
    }

    long holds() {
        return counted().holds();
    }

    int knownBits() {
        return counted().knownBits();
    }

    long meanBits() {
        return counted().meanBits();
    }

    boolean isSound() {
        return counted().isSound();
    }
}
