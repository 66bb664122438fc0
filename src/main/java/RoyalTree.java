import java.util.NoSuchElementException;

/** A house for the rights in songs: who has what of a work, and to whom the money of its uses goes. */
public final class RoyalTree {
    private static final int MOST_HANDS = 16;
    private static final int MOST_WORKS = 20;
    private static final int MOST_TITLES = 3;
    private static final int MOST_CONTRACTS = 12;
    private static final int MOST_CLAIMS = 20;
    private static final int MOST_USES = 60;
    private static final int MOST_PERIODS = 30;
    // Each call sets one share at the most, and an object is promised for 512 calls.
    private static final int MOST_SETTINGS = 512;

    private static final int KINDS = 3;
    private static final int LANDS = 3;
    private static final int FIRST_RATE = 10;
    private static final int LAST_DAY = 999;
    private static final int NEEDED_LIKENESS = 60;
    private static final int NONE = -1;

    private static final int WORDS_OF_A_TEXT = 6;
    private static final int BITS_OF_A_WORD = 6;
    private static final int WORD_MASK = 63;

    // A hand's number is below 16, so that a way of up to 16 hands stands in one long.
    private static final int BITS_OF_A_HAND = 4;
    private static final int HAND_MASK = 15;

    // No double is further from 1 than that many halvings or doublings.
    private static final int MOST_SCALINGS = 1100;

    private final Hands hands;
    private final Works works;
    private final Shares shares;
    private final Claims claims;
    private final Contracts contracts;
    private final Uses uses;
    private final Flows flows;
    private final Sharing sharing;
    private final Ledger ledger;
    private final int[][] rates;
    private final long[][] accountsAtEnd;
    private int periods;
    // What was worked out bears the count of changes at that time, and is stale once this has moved.
    private int changes;

    public RoyalTree() {
        hands = new Hands();
        works = new Works();
        shares = new Shares();
        claims = new Claims();
        contracts = new Contracts();
        uses = new Uses();
        flows = new Flows();
        sharing = new Sharing(hands, works, shares, claims, contracts, flows);
        ledger = new Ledger(hands, contracts);
        rates = new int[KINDS][LANDS];
        for (int kind = 0; kind < KINDS; kind++) {
            for (int land = 0; land < LANDS; land++) {
                rates[kind][land] = FIRST_RATE;
            }
        }
        accountsAtEnd = new long[MOST_PERIODS][MOST_HANDS];
        periods = 0;
        changes = 1;
    }

    // ---- hands and works

    public int addHand(boolean isSociety, int tax) throws IllegalArgumentException, IllegalStateException {
        needRange(tax, 0, 50);
        needRoom(hands.count, MOST_HANDS);
        changes++;
        return hands.add(isSociety, tax);
    }

    public int addWork(int ends) throws IllegalArgumentException, IllegalStateException {
        needRange(ends, 1, LAST_DAY + 1);
        needRoom(works.count, MOST_WORKS);
        changes++;
        return works.add(ends);
    }

    public int setShare(int work, int hand, int share, int day)
            throws IndexOutOfBoundsException, IllegalArgumentException {
        needNumber(work, works.count);
        needNumber(hand, hands.count);
        needRange(share, 0, 100);
        needRange(day, 0, LAST_DAY);
        changes++;
        shares.put(work, hand, share, day);
        return shares.sumOn(work, day, hands.count);
    }

    public int setPart(int work, int inner, int part)
            throws IndexOutOfBoundsException, IllegalArgumentException, UnsupportedOperationException {
        needNumber(work, works.count);
        needNumber(inner, works.count);
        needRange(part, 0, 100);
        int sum = works.sumOfParts(work) - works.part[work][inner] + part;
        if (sum > 100) {
            throw new UnsupportedOperationException("the parts would be more than 100");
        }
        if (part > 0 && works.isWithin(work, inner)) {
            throw new UnsupportedOperationException("a work would be within itself");
        }
        changes++;
        works.part[work][inner] = part;
        return sum;
    }

    public int assign(int hand, int to, int land, int part, int from, int till)
            throws IndexOutOfBoundsException, IllegalArgumentException, IllegalStateException {
        needNumber(hand, hands.count);
        needNumber(to, hands.count);
        needRange(land, 0, LANDS - 1);
        needRange(part, 1, 100);
        needRange(from, 0, LAST_DAY);
        needRange(till, from, LAST_DAY);
        if (hand == to) {
            throw new IllegalArgumentException("both hands are the same");
        }
        needRoom(contracts.count, MOST_CONTRACTS);
        changes++;
        int contract = contracts.add(hand, to);
        contracts.setTerms(contract, land, part, from, till);
        return contracts.count;
    }

    public int advance(int contract, int money) throws IndexOutOfBoundsException, IllegalArgumentException {
        needNumber(contract, contracts.count);
        needRange(money, 1, 100000);
        changes++;
        contracts.advanced[contract] += money;
        settle();
        return ledger.notPaidBack[contract];
    }

    // ---- claims and uses

    public int claim(int work, int hand, int share, int day)
            throws IndexOutOfBoundsException, IllegalArgumentException, IllegalStateException {
        needNumber(work, works.count);
        needNumber(hand, hands.count);
        needRange(share, 1, 100);
        needRange(day, 0, LAST_DAY);
        needRoom(claims.count, MOST_CLAIMS);
        changes++;
        return claims.add(work, hand, share, day);
    }

    public boolean decide(int claim, boolean holds) throws IndexOutOfBoundsException, UnsupportedOperationException {
        needNumber(claim, claims.count);
        if (claims.isDecided[claim]) {
            throw new UnsupportedOperationException("the claim was decided");
        }
        settle();
        ledger.remember();
        changes++;
        claims.isDecided[claim] = true;
        if (holds) {
            shares.put(claims.work[claim], claims.hand[claim], claims.share[claim], claims.day[claim]);
        }
        settle();
        return ledger.hasLessThanRemembered();
    }

    public int tariff(char kind, int land, int rate) throws IllegalArgumentException {
        int row = rowOfKind(kind);
        needRange(row, 0, KINDS - 1);
        needRange(land, 0, LANDS - 1);
        needRange(rate, 0, 1000);
        int before = rates[row][land];
        rates[row][land] = rate;
        return before;
    }

    public int use(char kind, int land, int text, int amount, int day)
            throws IllegalArgumentException, IllegalStateException {
        int row = rowOfKind(kind);
        needRange(row, 0, KINDS - 1);
        needRange(land, 0, LANDS - 1);
        needRange(day, 0, LAST_DAY);
        needText(text);
        needRange(amount, 1, 1000000);
        needRoom(uses.count, MOST_USES);
        changes++;
        int use = uses.add(land, text, day);
        uses.gross[use] = moneyFor(kind, rates[row][land], amount);
        uses.work[use] = works.bestFor(text);
        return use;
    }

    public int nameOf(int work, int text)
            throws IndexOutOfBoundsException, IllegalArgumentException, IllegalStateException {
        needNumber(work, works.count);
        needText(text);
        needRoom(works.titles[work], MOST_TITLES);
        changes++;
        works.addTitle(work, text);
        int known = 0;
        for (int use = 0; use < uses.count; use++) {
            if (uses.work[use] == NONE) {
                uses.work[use] = works.bestFor(uses.text[use]);
                known += uses.work[use] == NONE ? 0 : 1;
            }
        }
        return known;
    }

    public int matched(int use) throws IndexOutOfBoundsException {
        needNumber(use, uses.count);
        return uses.work[use];
    }

    public int likeness(int use, int work) throws IndexOutOfBoundsException {
        needNumber(use, uses.count);
        needNumber(work, works.count);
        return works.likenessTo(work, uses.text[use]);
    }

    // ---- money

    public long gross(int use) throws IndexOutOfBoundsException {
        needNumber(use, uses.count);
        return uses.gross[use];
    }

    public long share(int use, int hand) throws IndexOutOfBoundsException {
        needNumber(use, uses.count);
        needNumber(hand, hands.count);
        workOut(use);
        return flows.shared[use][hand];
    }

    public long held(int use) throws IndexOutOfBoundsException {
        needNumber(use, uses.count);
        workOut(use);
        return flows.held[use];
    }

    public long open(int use) throws IndexOutOfBoundsException {
        needNumber(use, uses.count);
        workOut(use);
        return flows.open[use];
    }

    public long gets(int use, int hand) throws IndexOutOfBoundsException {
        needNumber(use, uses.count);
        needNumber(hand, hands.count);
        workOut(use);
        return flows.kept[use][hand];
    }

    public long account(int hand) throws IndexOutOfBoundsException {
        needNumber(hand, hands.count);
        settle();
        return ledger.balance[hand];
    }

    public long tax(int hand) throws IndexOutOfBoundsException {
        needNumber(hand, hands.count);
        settle();
        return ledger.withheld[hand];
    }

    public int notRecouped(int contract) throws IndexOutOfBoundsException {
        needNumber(contract, contracts.count);
        settle();
        return ledger.notPaidBack[contract];
    }

    public int period() throws IllegalStateException {
        needRoom(periods, MOST_PERIODS);
        changes++;
        int paid = uses.payAll(periods);
        settle();
        System.arraycopy(ledger.balance, 0, accountsAtEnd[periods], 0, MOST_HANDS);
        periods++;
        return paid;
    }

    public int paidIn(int use) throws IndexOutOfBoundsException, NoSuchElementException {
        needNumber(use, uses.count);
        if (uses.period[use] == NONE) {
            throw new NoSuchElementException("the use was not paid");
        }
        return uses.period[use];
    }

    public long statement(int period, int hand) throws IndexOutOfBoundsException {
        needNumber(period, periods);
        needNumber(hand, hands.count);
        return changeIn(period, hand);
    }

    public int chain(int use, int hand) throws IndexOutOfBoundsException, NoSuchElementException {
        return lengthOfWay(use, hand);
    }

    public int chainAt(int use, int hand, int index) throws IndexOutOfBoundsException, NoSuchElementException {
        int length = lengthOfWay(use, hand);
        if (index < 0 || index >= length) {
            throw new NoSuchElementException("the chain has no such place");
        }
        int behind = length - 1 - index;
        return (int) (flows.way[use][hand] >>> (BITS_OF_A_HAND * behind)) & HAND_MASK;
    }

    // ---- figures

    public int shareOn(int work, int hand, int day) throws IndexOutOfBoundsException, IllegalArgumentException {
        needNumber(work, works.count);
        needNumber(hand, hands.count);
        needRange(day, 0, LAST_DAY);
        return shares.ofHandOn(work, hand, day);
    }

    public boolean isDisputed(int work, int day) throws IndexOutOfBoundsException, IllegalArgumentException {
        needNumber(work, works.count);
        needRange(day, 0, LAST_DAY);
        return shares.sumOn(work, day, hands.count) > 100 || claims.isWaiting(work, day);
    }

    public int works() {
        return works.count;
    }

    public int uses() {
        return uses.count;
    }

    public long pot() {
        long sum = 0;
        for (int use = 0; use < uses.count; use++) {
            workOut(use);
            sum += flows.open[use];
        }
        return sum;
    }

    public long holds() {
        long sum = 0;
        for (int use = 0; use < uses.count; use++) {
            workOut(use);
            sum += flows.held[use];
        }
        return sum;
    }

    public int knownBits() throws ArithmeticException {
        if (uses.count == 0) {
            throw new ArithmeticException("there are no uses");
        }
        return bitsOfFloat((float) uses.countKnown() / (float) uses.count);
    }

    public long meanBits() throws ArithmeticException {
        if (uses.count == 0) {
            throw new ArithmeticException("there are no uses");
        }
        return bitsOfDouble((double) uses.sumOfGross() / (double) uses.count);
    }

    public boolean isSound() {
        for (int use = 0; use < uses.count; use++) {
            workOut(use);
            if (flows.sumOf(use) != uses.gross[use]) {
                return false;
            }
        }
        for (int hand = 0; hand < hands.count; hand++) {
            if (sumOfChanges(hand) != accountAtLastEnd(hand)) {
                return false;
            }
        }
        return true;
    }

    // ---- what several calls need

    private static void needNumber(int number, int count) {
        if (number < 0 || number >= count) {
            throw new IndexOutOfBoundsException("there is none of this number");
        }
    }

    private static void needRange(int value, int least, int most) {
        if (value < least || value > most) {
            throw new IllegalArgumentException("an argument is out of range");
        }
    }

    private static void needText(int text) {
        if (text < 0) {
            throw new IllegalArgumentException("a text is not less than 0");
        }
    }

    private static void needRoom(int count, int most) {
        if (count >= most) {
            throw new IllegalStateException("there is no room for more");
        }
    }

    private static int rowOfKind(char kind) {
        if (kind == 'r') {
            return 0;
        }
        if (kind == 'c') {
            return 1;
        }
        return kind == 's' ? 2 : NONE;
    }

    private static long moneyFor(char kind, int rate, int amount) {
        long product = (long) rate * amount;
        if (kind == 'c') {
            return product / 100;
        }
        return kind == 's' ? product / 1000 : product;
    }

    /** Brings up to date what is known of how a use is shared. */
    private void workOut(int use) {
        if (flows.asOf[use] == changes) {
            return;
        }
        flows.clear(use);
        if (uses.work[use] == NONE) {
            flows.open[use] = uses.gross[use];
        } else {
            sharing.begin(use, uses.land[use], uses.day[use]);
            sharing.shareOut(uses.work[use], uses.gross[use]);
        }
        flows.asOf[use] = changes;
    }

    /** Brings the accounts up to date. */
    private void settle() {
        if (ledger.asOf == changes) {
            return;
        }
        ledger.begin();
        // Each period pays all that waits, so that rising numbers are rising periods too.
        for (int use = 0; use < uses.count; use++) {
            if (uses.period[use] != NONE) {
                workOut(use);
                ledger.enter(flows.kept[use]);
            }
        }
        ledger.asOf = changes;
    }

    private int lengthOfWay(int use, int hand) {
        needNumber(use, uses.count);
        needNumber(hand, hands.count);
        workOut(use);
        int length = flows.wayLength[use][hand];
        if (length == 0) {
            throw new NoSuchElementException("no money of the use comes to the hand");
        }
        return length;
    }

    private long changeIn(int period, int hand) {
        long before = period == 0 ? 0 : accountsAtEnd[period - 1][hand];
        return accountsAtEnd[period][hand] - before;
    }

    private long sumOfChanges(int hand) {
        long sum = 0;
        for (int period = 0; period < periods; period++) {
            sum += changeIn(period, hand);
        }
        return sum;
    }

    private long accountAtLastEnd(int hand) {
        return periods == 0 ? 0 : accountsAtEnd[periods - 1][hand];
    }

    /** The bits of a float from 0 to 1 that is not subnormal, by its exponent and fraction. */
    private static int bitsOfFloat(float value) {
        if (value <= 0f) {
            return 0;
        }
        float fraction = value;
        int exponent = 127;
        for (int i = 0; i < MOST_SCALINGS && fraction < 1f; i++) {
            fraction = fraction * 2f;
            exponent--;
        }
        return (exponent << 23) | (int) ((fraction - 1f) * 8388608f);
    }

    /** The bits of a double that is not negative and not subnormal. */
    private static long bitsOfDouble(double value) {
        if (value <= 0.0) {
            return 0L;
        }
        double fraction = value;
        long exponent = 1023L;
        for (int i = 0; i < MOST_SCALINGS && fraction < 1.0; i++) {
            fraction = fraction * 2.0;
            exponent--;
        }
        for (int i = 0; i < MOST_SCALINGS && fraction >= 2.0; i++) {
            fraction = fraction / 2.0;
            exponent++;
        }
        return (exponent << 52) | (long) ((fraction - 1.0) * 4503599627370496.0);
    }

    /** Persons, houses and societies. */
    private static final class Hands {
        int count = 0;
        final boolean[] isSociety = new boolean[MOST_HANDS];
        final int[] taxRate = new int[MOST_HANDS];

        int add(boolean society, int rate) {
            int hand = count;
            isSociety[hand] = society;
            taxRate[hand] = rate;
            count++;
            return hand;
        }
    }

    /** Works, their titles, and the works within them. */
    private static final class Works {
        int count = 0;
        final int[] endOfRights = new int[MOST_WORKS];
        final int[] titles = new int[MOST_WORKS];
        final int[][] title = new int[MOST_WORKS][MOST_TITLES];
        final int[][] part = new int[MOST_WORKS][MOST_WORKS];
        private final boolean[] isReached = new boolean[MOST_WORKS];
        private final int[] reached = new int[MOST_WORKS];

        int add(int ends) {
            int work = count;
            endOfRights[work] = ends;
            count++;
            return work;
        }

        void addTitle(int work, int text) {
            title[work][titles[work]] = text;
            titles[work]++;
        }

        int sumOfParts(int work) {
            int sum = 0;
            for (int inner = 0; inner < count; inner++) {
                sum += part[work][inner];
            }
            return sum;
        }

        /** Whether a work is another one, or in it, or in one that is in it, and so on. */
        boolean isWithin(int work, int outer) {
            for (int i = 0; i < count; i++) {
                isReached[i] = false;
            }
            isReached[outer] = true;
            reached[0] = outer;
            int many = 1;
            // Each work is reached once at the most, so that many stays up to count.
            for (int i = 0; i < many && i < count; i++) {
                for (int inner = 0; inner < count && many < MOST_WORKS; inner++) {
                    if (part[reached[i]][inner] > 0 && !isReached[inner]) {
                        isReached[inner] = true;
                        reached[many] = inner;
                        many++;
                    }
                }
            }
            return isReached[work];
        }

        int likenessTo(int work, int text) {
            int greatest = 0;
            for (int i = 0; i < titles[work]; i++) {
                greatest = Math.max(greatest, Words.likenessOf(title[work][i], text));
            }
            return greatest;
        }

        /** The work that a text tells, NONE if no work is like enough. */
        int bestFor(int text) {
            int best = NONE;
            int greatest = NEEDED_LIKENESS - 1;
            for (int work = 0; work < count; work++) {
                int likeness = likenessTo(work, text);
                if (likeness > greatest) {
                    greatest = likeness;
                    best = work;
                }
            }
            return best;
        }
    }

    /** Texts as bags of words. */
    private static final class Words {
        private static int wordAt(int text, int place) {
            return (text >>> (BITS_OF_A_WORD * place)) & WORD_MASK;
        }

        private static int countIn(int text) {
            int many = 0;
            for (int place = 0; place < WORDS_OF_A_TEXT; place++) {
                many += wordAt(text, place) == 0 ? 0 : 1;
            }
            return many;
        }

        /** The text without one of its words, or the text itself if the word is not in it. */
        private static int without(int text, int word) {
            for (int place = 0; place < WORDS_OF_A_TEXT; place++) {
                if (wordAt(text, place) == word) {
                    return text & ~(WORD_MASK << (BITS_OF_A_WORD * place));
                }
            }
            return text;
        }

        private static int countCommon(int one, int other) {
            int common = 0;
            int rest = other;
            for (int place = 0; place < WORDS_OF_A_TEXT; place++) {
                int word = wordAt(one, place);
                int smaller = word == 0 ? rest : without(rest, word);
                common += smaller == rest ? 0 : 1;
                rest = smaller;
            }
            return common;
        }

        static int likenessOf(int one, int other) {
            int many = countIn(one) + countIn(other);
            return many == 0 ? 0 : 200 * countCommon(one, other) / many;
        }
    }

    /** The shares as they were set, one for each work, hand and day. */
    private static final class Shares {
        private int count = 0;
        private final int[] works = new int[MOST_SETTINGS];
        private final int[] hands = new int[MOST_SETTINGS];
        private final int[] days = new int[MOST_SETTINGS];
        private final int[] hundredths = new int[MOST_SETTINGS];

        void put(int work, int hand, int share, int day) {
            int place = placeOf(work, hand, day);
            if (place >= MOST_SETTINGS) {
                return;
            }
            works[place] = work;
            hands[place] = hand;
            days[place] = day;
            hundredths[place] = share;
            count = Math.max(count, place + 1);
        }

        private int placeOf(int work, int hand, int day) {
            for (int i = 0; i < count; i++) {
                if (works[i] == work && hands[i] == hand && days[i] == day) {
                    return i;
                }
            }
            return count;
        }

        int ofHandOn(int work, int hand, int day) {
            int latest = NONE;
            int share = 0;
            for (int i = 0; i < count; i++) {
                if (works[i] == work && hands[i] == hand && days[i] <= day && days[i] > latest) {
                    latest = days[i];
                    share = hundredths[i];
                }
            }
            return share;
        }

        int sumOn(int work, int day, int manyHands) {
            int sum = 0;
            for (int hand = 0; hand < manyHands; hand++) {
                sum += ofHandOn(work, hand, day);
            }
            return sum;
        }

        /** Writes the shares of a day into a table by works and hands; the second table tells their days. */
        void fillFor(int day, int manyWorks, int manyHands, int[][] table, int[][] latest) {
            for (int work = 0; work < manyWorks; work++) {
                for (int hand = 0; hand < manyHands; hand++) {
                    table[work][hand] = 0;
                    latest[work][hand] = NONE;
                }
            }
            for (int i = 0; i < count; i++) {
                int work = works[i];
                int hand = hands[i];
                if (days[i] <= day && days[i] > latest[work][hand]) {
                    latest[work][hand] = days[i];
                    table[work][hand] = hundredths[i];
                }
            }
        }
    }

    /** Claims against what is registered. */
    private static final class Claims {
        int count = 0;
        final int[] work = new int[MOST_CLAIMS];
        final int[] hand = new int[MOST_CLAIMS];
        final int[] share = new int[MOST_CLAIMS];
        final int[] day = new int[MOST_CLAIMS];
        final boolean[] isDecided = new boolean[MOST_CLAIMS];

        int add(int ofWork, int ofHand, int hundredths, int fromDay) {
            int claim = count;
            work[claim] = ofWork;
            hand[claim] = ofHand;
            share[claim] = hundredths;
            day[claim] = fromDay;
            count++;
            return claim;
        }

        boolean isWaiting(int ofWork, int onDay) {
            for (int i = 0; i < count; i++) {
                if (work[i] == ofWork && day[i] <= onDay && !isDecided[i]) {
                    return true;
                }
            }
            return false;
        }
    }

    /** Contracts by which money goes on, and the advances on them. */
    private static final class Contracts {
        int count = 0;
        final int[] hand = new int[MOST_CONTRACTS];
        final int[] to = new int[MOST_CONTRACTS];
        final int[] part = new int[MOST_CONTRACTS];
        final int[] advanced = new int[MOST_CONTRACTS];
        private final int[] land = new int[MOST_CONTRACTS];
        private final int[] from = new int[MOST_CONTRACTS];
        private final int[] till = new int[MOST_CONTRACTS];

        int add(int ofHand, int toHand) {
            int contract = count;
            hand[contract] = ofHand;
            to[contract] = toHand;
            count++;
            return contract;
        }

        void setTerms(int contract, int forLand, int hundredths, int firstDay, int lastDay) {
            land[contract] = forLand;
            part[contract] = hundredths;
            from[contract] = firstDay;
            till[contract] = lastDay;
        }

        boolean isFor(int contract, int ofHand, int inLand, int onDay) {
            return hand[contract] == ofHand && land[contract] == inLand
                    && from[contract] <= onDay && onDay <= till[contract];
        }
    }

    /** Uses as they were told, matched and paid. */
    private static final class Uses {
        int count = 0;
        final int[] land = new int[MOST_USES];
        final int[] text = new int[MOST_USES];
        final int[] day = new int[MOST_USES];
        final long[] gross = new long[MOST_USES];
        final int[] work = new int[MOST_USES];
        final int[] period = new int[MOST_USES];

        int add(int inLand, int words, int onDay) {
            int use = count;
            land[use] = inLand;
            text[use] = words;
            day[use] = onDay;
            work[use] = NONE;
            period[use] = NONE;
            count++;
            return use;
        }

        int payAll(int inPeriod) {
            int paid = 0;
            for (int use = 0; use < count; use++) {
                if (period[use] == NONE) {
                    period[use] = inPeriod;
                    paid++;
                }
            }
            return paid;
        }

        int countKnown() {
            int known = 0;
            for (int use = 0; use < count; use++) {
                known += work[use] == NONE ? 0 : 1;
            }
            return known;
        }

        long sumOfGross() {
            long sum = 0;
            for (int use = 0; use < count; use++) {
                sum += gross[use];
            }
            return sum;
        }
    }

    /** What was worked out for each use: a row a use, a column a hand. */
    private static final class Flows {
        final int[] asOf = new int[MOST_USES];
        final long[] held = new long[MOST_USES];
        final long[] open = new long[MOST_USES];
        final long[][] shared = new long[MOST_USES][MOST_HANDS];
        final long[][] kept = new long[MOST_USES][MOST_HANDS];
        // The first way to a hand: its hands, the last one in the lowest bits, and how many they are.
        final long[][] way = new long[MOST_USES][MOST_HANDS];
        final int[][] wayLength = new int[MOST_USES][MOST_HANDS];

        void clear(int use) {
            held[use] = 0;
            open[use] = 0;
            for (int hand = 0; hand < MOST_HANDS; hand++) {
                shared[use][hand] = 0;
                kept[use][hand] = 0;
                way[use][hand] = 0;
                wayLength[use][hand] = 0;
            }
        }

        long sumOf(int use) {
            long sum = held[use] + open[use];
            for (int hand = 0; hand < MOST_HANDS; hand++) {
                sum += kept[use][hand];
            }
            return sum;
        }
    }

    /** Shares out the money of one use: by parts, by shares, by contracts. */
    private static final class Sharing {
        private final Hands hands;
        private final Works works;
        private final Shares shares;
        private final Claims claims;
        private final Contracts contracts;
        private final Flows flows;
        private final int[][] hundredths = new int[MOST_WORKS][MOST_HANDS];
        private final int[][] sinceDay = new int[MOST_WORKS][MOST_HANDS];
        private final boolean[] isInDispute = new boolean[MOST_WORKS];
        private int use;
        private int land;
        private int day;

        Sharing(Hands allHands, Works allWorks, Shares allShares, Claims allClaims, Contracts allContracts,
                Flows allFlows) {
            hands = allHands;
            works = allWorks;
            shares = allShares;
            claims = allClaims;
            contracts = allContracts;
            flows = allFlows;
            use = 0;
            land = 0;
            day = 0;
        }

        void begin(int ofUse, int inLand, int onDay) {
            use = ofUse;
            land = inLand;
            day = onDay;
            shares.fillFor(onDay, works.count, hands.count, hundredths, sinceDay);
            for (int work = 0; work < works.count; work++) {
                isInDispute[work] = sumOfShares(work) > 100 || claims.isWaiting(work, onDay);
            }
        }

        private int sumOfShares(int work) {
            int sum = 0;
            for (int hand = 0; hand < hands.count; hand++) {
                sum += hundredths[work][hand];
            }
            return sum;
        }

        void shareOut(int work, long money) {
            spread(work, money, 0);
            for (int hand = 0; hand < hands.count; hand++) {
                if (flows.shared[use][hand] > 0) {
                    passOn(hand, flows.shared[use][hand], 1 << hand, hand, 1);
                }
            }
        }

        /** Gives the works within a work their parts, and the hands what is the work's own. */
        private void spread(int work, long money, int depth) {
            // No work is within itself, so that a way has each of the works once at the most.
            if (depth >= MOST_WORKS) {
                flows.open[use] += money;
                return;
            }
            long own = money;
            for (int inner = 0; inner < works.count; inner++) {
                long piece = money * works.part[work][inner] / 100;
                if (piece > 0) {
                    own -= piece;
                    spread(inner, piece, depth + 1);
                }
            }
            giveOwn(work, own);
        }

        private void giveOwn(int work, long own) {
            if (day >= works.endOfRights[work]) {
                flows.open[use] += own;
                return;
            }
            if (isInDispute[work]) {
                flows.held[use] += own;
                return;
            }
            long left = own;
            for (int hand = 0; hand < hands.count; hand++) {
                long piece = own * hundredths[work][hand] / 100;
                flows.shared[use][hand] += piece;
                left -= piece;
            }
            flows.open[use] += left;
        }

        /** Takes money that has come to a hand through its contracts; came has a bit for each hand of the way. */
        private void passOn(int hand, long money, int came, long way, int length) {
            long left = money;
            // A way of all hands has none to go on to, so that the bound on its length changes no answer.
            for (int i = 0; i < contracts.count && length < MOST_HANDS; i++) {
                int to = contracts.to[i];
                boolean wasThere = (came >> to & 1) != 0;
                if (!wasThere && contracts.isFor(i, hand, land, day)) {
                    long piece = left * contracts.part[i] / 100;
                    left -= piece;
                    if (piece > 0) {
                        passOn(to, piece, came | 1 << to, way << BITS_OF_A_HAND | to, length + 1);
                    }
                }
            }
            keep(hand, left, way, length);
        }

        private void keep(int hand, long left, long way, int length) {
            if (hands.isSociety[hand]) {
                flows.open[use] += left;
                return;
            }
            flows.kept[use][hand] += left;
            if (left > 0 && flows.wayLength[use][hand] == 0) {
                flows.way[use][hand] = way;
                flows.wayLength[use][hand] = length;
            }
        }
    }

    /** The accounts, worked out anew from the advances and all uses that were paid. */
    private static final class Ledger {
        private final Hands hands;
        private final Contracts contracts;
        final long[] balance = new long[MOST_HANDS];
        final long[] withheld = new long[MOST_HANDS];
        final int[] notPaidBack = new int[MOST_CONTRACTS];
        private final long[] own = new long[MOST_HANDS];
        private final long[] remembered = new long[MOST_HANDS];
        int asOf = 0;

        Ledger(Hands allHands, Contracts allContracts) {
            hands = allHands;
            contracts = allContracts;
        }

        void begin() {
            for (int hand = 0; hand < MOST_HANDS; hand++) {
                balance[hand] = 0;
                withheld[hand] = 0;
            }
            for (int i = 0; i < contracts.count; i++) {
                notPaidBack[i] = contracts.advanced[i];
                balance[contracts.hand[i]] += contracts.advanced[i];
                balance[contracts.to[i]] -= contracts.advanced[i];
            }
        }

        /** Enters one use, of which each hand has kept what the row tells. */
        void enter(long[] kept) {
            for (int hand = 0; hand < MOST_HANDS; hand++) {
                own[hand] = 0;
            }
            for (int hand = 0; hand < hands.count && hand < kept.length; hand++) {
                own[hand] += payBack(hand, kept[hand]);
            }
            for (int hand = 0; hand < hands.count; hand++) {
                long tax = own[hand] * hands.taxRate[hand] / 100;
                withheld[hand] += tax;
                balance[hand] += own[hand] - tax;
            }
        }

        /** Pays back what a hand was advanced, as far as the money goes, and tells what is left of it. */
        private long payBack(int hand, long money) {
            long left = money;
            for (int i = 0; i < contracts.count; i++) {
                if (contracts.hand[i] == hand) {
                    long piece = Math.min(left, notPaidBack[i]);
                    notPaidBack[i] -= (int) piece;
                    own[contracts.to[i]] += piece;
                    left -= piece;
                }
            }
            return left;
        }

        void remember() {
            System.arraycopy(balance, 0, remembered, 0, MOST_HANDS);
        }

        boolean hasLessThanRemembered() {
            for (int hand = 0; hand < hands.count; hand++) {
                if (balance[hand] < remembered[hand]) {
                    return true;
                }
            }
            return false;
        }
    }
}
