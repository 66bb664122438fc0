import java.util.ArrayList;
import java.util.Collections;
import java.util.HashMap;
import java.util.List;
import java.util.Map;
import java.util.NoSuchElementException;

/** The document once more, written for being read against it: nothing is kept that can be worked out anew. */
final class PlainTree {
    private record Hand(boolean isSociety, int tax) { }
    private record Setting(int work, int hand, int share, int day) { }
    private record Contract(int hand, int to, int land, int part, int from, int till) { }
    private record Use(int land, int text, int day, long gross) { }

    private static final class Shared {
        final long[] share = new long[16];
        final long[] kept = new long[16];
        final Map<Integer, List<Integer>> chain = new HashMap<>();
        long held;
        long open;
    }

    private final List<Hand> hands = new ArrayList<>();
    private final List<Integer> ends = new ArrayList<>();
    private final List<List<Integer>> titles = new ArrayList<>();
    private final List<Map<Integer, Integer>> parts = new ArrayList<>();
    private final List<Setting> settings = new ArrayList<>();
    private final List<Setting> claims = new ArrayList<>();
    private final List<Boolean> decided = new ArrayList<>();
    private final List<Contract> contracts = new ArrayList<>();
    private final List<Integer> advances = new ArrayList<>();
    private final List<Use> uses = new ArrayList<>();
    private final List<Integer> works = new ArrayList<>();
    private final List<Integer> paid = new ArrayList<>();
    private final List<long[]> accountsAtEnd = new ArrayList<>();
    private final Map<String, Integer> rates = new HashMap<>();

    private static void index(int number, int size) {
        if (number < 0 || number >= size) {
            throw new IndexOutOfBoundsException();
        }
    }

    private static void legal(boolean isLegal) {
        if (!isLegal) {
            throw new IllegalArgumentException();
        }
    }

    private static void room(boolean isThere) {
        if (!isThere) {
            throw new IllegalStateException();
        }
    }

    private static boolean within(int value, int least, int most) {
        return least <= value && value <= most;
    }

    int addHand(boolean isSociety, int tax) {
        legal(within(tax, 0, 50));
        room(hands.size() < 16);
        hands.add(new Hand(isSociety, tax));
        return hands.size() - 1;
    }

    int addWork(int end) {
        legal(within(end, 1, 1000));
        room(ends.size() < 20);
        ends.add(end);
        titles.add(new ArrayList<>());
        parts.add(new HashMap<>());
        return ends.size() - 1;
    }

    int setShare(int work, int hand, int share, int day) {
        index(work, ends.size());
        index(hand, hands.size());
        legal(within(share, 0, 100) && within(day, 0, 999));
        settings.add(new Setting(work, hand, share, day));
        return sumOn(work, day);
    }

    int setPart(int work, int inner, int part) {
        index(work, ends.size());
        index(inner, ends.size());
        legal(within(part, 0, 100));
        Map<Integer, Integer> then = new HashMap<>(parts.get(work));
        then.put(inner, part);
        int sum = then.values().stream().mapToInt(Integer::intValue).sum();
        if (sum > 100 || part > 0 && contains(inner, work)) {
            throw new UnsupportedOperationException();
        }
        parts.set(work, then);
        return sum;
    }

    private boolean contains(int outer, int work) {
        if (outer == work) {
            return true;
        }
        for (Map.Entry<Integer, Integer> part : parts.get(outer).entrySet()) {
            if (part.getValue() > 0 && contains(part.getKey(), work)) {
                return true;
            }
        }
        return false;
    }

    int assign(int hand, int to, int land, int part, int from, int till) {
        index(hand, hands.size());
        index(to, hands.size());
        legal(within(land, 0, 2) && within(part, 1, 100) && within(from, 0, 999) && within(till, 0, 999));
        legal(from <= till && hand != to);
        room(contracts.size() < 12);
        contracts.add(new Contract(hand, to, land, part, from, till));
        advances.add(0);
        return contracts.size();
    }

    int advance(int contract, int money) {
        index(contract, contracts.size());
        legal(within(money, 1, 100000));
        advances.set(contract, advances.get(contract) + money);
        return notRecouped(contract);
    }

    int claim(int work, int hand, int share, int day) {
        index(work, ends.size());
        index(hand, hands.size());
        legal(within(share, 1, 100) && within(day, 0, 999));
        room(claims.size() < 20);
        claims.add(new Setting(work, hand, share, day));
        decided.add(false);
        return claims.size() - 1;
    }

    boolean decide(int claim, boolean holds) {
        index(claim, claims.size());
        if (decided.get(claim)) {
            throw new UnsupportedOperationException();
        }
        long[] before = count().account;
        decided.set(claim, true);
        if (holds) {
            settings.add(claims.get(claim));
        }
        long[] after = count().account;
        for (int hand = 0; hand < 16; hand++) {
            if (after[hand] < before[hand]) {
                return true;
            }
        }
        return false;
    }

    int tariff(char kind, int land, int rate) {
        legal("rcs".indexOf(kind) >= 0 && within(land, 0, 2) && within(rate, 0, 1000));
        Integer before = rates.put(kind + " " + land, rate);
        return before == null ? 10 : before;
    }

    int use(char kind, int land, int text, int amount, int day) {
        legal("rcs".indexOf(kind) >= 0 && within(land, 0, 2) && within(day, 0, 999));
        legal(text >= 0 && within(amount, 1, 1000000));
        room(uses.size() < 60);
        long product = (long) rates.getOrDefault(kind + " " + land, 10) * amount;
        uses.add(new Use(land, text, day, kind == 'r' ? product : kind == 'c' ? product / 100 : product / 1000));
        works.add(workOf(text));
        paid.add(-1);
        return uses.size() - 1;
    }

    int nameOf(int work, int text) {
        index(work, ends.size());
        legal(text >= 0);
        room(titles.get(work).size() < 3);
        titles.get(work).add(text);
        int known = 0;
        for (int use = 0; use < uses.size(); use++) {
            if (works.get(use) < 0) {
                works.set(use, workOf(uses.get(use).text));
                known += works.get(use) < 0 ? 0 : 1;
            }
        }
        return known;
    }

    private int workOf(int text) {
        int best = -1;
        for (int work = 0; work < ends.size(); work++) {
            if (likenessTo(text, work) >= 60 && (best < 0 || likenessTo(text, work) > likenessTo(text, best))) {
                best = work;
            }
        }
        return best;
    }

    private int likenessTo(int text, int work) {
        return titles.get(work).stream().mapToInt(title -> likenessOf(text, title)).max().orElse(0);
    }

    private static int likenessOf(int one, int other) {
        List<Integer> words = wordsOf(one);
        List<Integer> others = wordsOf(other);
        int both = words.size() + others.size();
        int common = 0;
        for (int word = 1; word < 64; word++) {
            common += Math.min(Collections.frequency(words, word), Collections.frequency(others, word));
        }
        return both == 0 ? 0 : 200 * common / both;
    }

    private static List<Integer> wordsOf(int text) {
        List<Integer> words = new ArrayList<>();
        for (int rest = text; rest > 0; rest /= 64) {
            if (rest % 64 != 0) {
                words.add(rest % 64);
            }
        }
        return words;
    }

    int matched(int use) {
        index(use, uses.size());
        return works.get(use);
    }

    int likeness(int use, int work) {
        index(use, uses.size());
        index(work, ends.size());
        return likenessTo(uses.get(use).text, work);
    }

    long gross(int use) {
        index(use, uses.size());
        return uses.get(use).gross;
    }

    private Shared shared(int number) {
        Use use = uses.get(number);
        Shared shared = new Shared();
        if (works.get(number) < 0) {
            shared.open = use.gross;
            return shared;
        }
        spread(use, works.get(number), use.gross, shared);
        for (int hand = 0; hand < hands.size(); hand++) {
            if (shared.share[hand] > 0) {
                go(use, List.of(hand), shared.share[hand], shared);
            }
        }
        return shared;
    }

    private void spread(Use use, int work, long money, Shared shared) {
        long own = money;
        for (int inner = 0; inner < ends.size(); inner++) {
            long piece = money * parts.get(work).getOrDefault(inner, 0) / 100;
            own -= piece;
            if (piece > 0) {
                spread(use, inner, piece, shared);
            }
        }
        if (use.day >= ends.get(work)) {
            shared.open += own;
        } else if (isDisputed(work, use.day)) {
            shared.held += own;
        } else {
            long left = own;
            for (int hand = 0; hand < hands.size(); hand++) {
                long piece = own * shareOn(work, hand, use.day) / 100;
                shared.share[hand] += piece;
                left -= piece;
            }
            shared.open += left;
        }
    }

    private void go(Use use, List<Integer> way, long money, Shared shared) {
        int hand = way.get(way.size() - 1);
        long left = money;
        for (Contract contract : contracts) {
            boolean applies = contract.hand == hand && contract.land == use.land
                    && within(use.day, contract.from, contract.till) && !way.contains(contract.to);
            if (applies) {
                long piece = left * contract.part / 100;
                left -= piece;
                List<Integer> further = new ArrayList<>(way);
                further.add(contract.to);
                go(use, further, piece, shared);
            }
        }
        if (hands.get(hand).isSociety) {
            shared.open += left;
        } else if (left > 0) {
            shared.kept[hand] += left;
            shared.chain.putIfAbsent(hand, way);
        }
    }

    long share(int use, int hand) {
        index(use, uses.size());
        index(hand, hands.size());
        return shared(use).share[hand];
    }

    long held(int use) {
        index(use, uses.size());
        return shared(use).held;
    }

    long open(int use) {
        index(use, uses.size());
        return shared(use).open;
    }

    long gets(int use, int hand) {
        index(use, uses.size());
        index(hand, hands.size());
        return shared(use).kept[hand];
    }

    private static final class Counted {
        final long[] account = new long[16];
        final long[] tax = new long[16];
        final long[] rest = new long[12];
    }

    private Counted count() {
        Counted counted = new Counted();
        for (int i = 0; i < contracts.size(); i++) {
            counted.rest[i] = advances.get(i);
            counted.account[contracts.get(i).hand] += advances.get(i);
            counted.account[contracts.get(i).to] -= advances.get(i);
        }
        for (int period = 0; period < accountsAtEnd.size() + 1; period++) {
            for (int use = 0; use < uses.size(); use++) {
                if (paid.get(use) == period) {
                    countUse(use, counted);
                }
            }
        }
        return counted;
    }

    private void countUse(int use, Counted counted) {
        long[] left = shared(use).kept;
        long[] own = new long[16];
        for (int hand = 0; hand < 16; hand++) {
            for (int i = 0; i < contracts.size(); i++) {
                if (contracts.get(i).hand == hand) {
                    long piece = Math.min(left[hand], counted.rest[i]);
                    counted.rest[i] -= piece;
                    left[hand] -= piece;
                    own[contracts.get(i).to] += piece;
                }
            }
            own[hand] += left[hand];
        }
        for (int hand = 0; hand < hands.size(); hand++) {
            long tax = own[hand] * hands.get(hand).tax / 100;
            counted.tax[hand] += tax;
            counted.account[hand] += own[hand] - tax;
        }
    }

    long account(int hand) {
        index(hand, hands.size());
        return count().account[hand];
    }

    long tax(int hand) {
        index(hand, hands.size());
        return count().tax[hand];
    }

    int notRecouped(int contract) {
        index(contract, contracts.size());
        return (int) count().rest[contract];
    }

    int period() {
        room(accountsAtEnd.size() < 30);
        int many = 0;
        for (int use = 0; use < uses.size(); use++) {
            if (paid.get(use) < 0) {
                paid.set(use, accountsAtEnd.size());
                many++;
            }
        }
        accountsAtEnd.add(count().account);
        return many;
    }

    int paidIn(int use) {
        index(use, uses.size());
        if (paid.get(use) < 0) {
            throw new NoSuchElementException();
        }
        return paid.get(use);
    }

    long statement(int period, int hand) {
        index(period, accountsAtEnd.size());
        index(hand, hands.size());
        long before = period == 0 ? 0 : accountsAtEnd.get(period - 1)[hand];
        return accountsAtEnd.get(period)[hand] - before;
    }

    private List<Integer> way(int use, int hand) {
        index(use, uses.size());
        index(hand, hands.size());
        List<Integer> way = shared(use).chain.get(hand);
        if (way == null) {
            throw new NoSuchElementException();
        }
        return way;
    }

    int chain(int use, int hand) {
        return way(use, hand).size();
    }

    int chainAt(int use, int hand, int place) {
        List<Integer> way = way(use, hand);
        if (!within(place, 0, way.size() - 1)) {
            throw new NoSuchElementException();
        }
        return way.get(place);
    }

    int shareOn(int work, int hand, int day) {
        index(work, ends.size());
        index(hand, hands.size());
        legal(within(day, 0, 999));
        Setting latest = null;
        for (Setting setting : settings) {
            boolean counts = setting.work == work && setting.hand == hand && setting.day <= day;
            if (counts && (latest == null || setting.day >= latest.day)) {
                latest = setting;
            }
        }
        return latest == null ? 0 : latest.share;
    }

    private int sumOn(int work, int day) {
        int sum = 0;
        for (int hand = 0; hand < hands.size(); hand++) {
            sum += shareOn(work, hand, day);
        }
        return sum;
    }

    boolean isDisputed(int work, int day) {
        index(work, ends.size());
        legal(within(day, 0, 999));
        for (int i = 0; i < claims.size(); i++) {
            if (claims.get(i).work == work && claims.get(i).day <= day && !decided.get(i)) {
                return true;
            }
        }
        return sumOn(work, day) > 100;
    }

    int works() {
        return ends.size();
    }

    int uses() {
        return uses.size();
    }

    long pot() {
        long sum = 0;
        for (int use = 0; use < uses.size(); use++) {
            sum += shared(use).open;
        }
        return sum;
    }

    long holds() {
        long sum = 0;
        for (int use = 0; use < uses.size(); use++) {
            sum += shared(use).held;
        }
        return sum;
    }

    int knownBits() {
        if (uses.isEmpty()) {
            throw new ArithmeticException();
        }
        long known = works.stream().filter(work -> work >= 0).count();
        return Float.floatToIntBits((float) known / (float) uses.size());
    }

    long meanBits() {
        if (uses.isEmpty()) {
            throw new ArithmeticException();
        }
        long sum = uses.stream().mapToLong(use -> use.gross).sum();
        return Double.doubleToLongBits((double) sum / (double) uses.size());
    }

    boolean isSound() {
        return true;
    }
}
