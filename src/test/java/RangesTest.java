import java.util.ArrayList;
import java.util.Arrays;
import java.util.List;
import java.util.NoSuchElementException;
import java.util.TreeSet;

/**
 * Each call of the face with each of its arguments: the least and the greatest number that is taken, those next to them
 * and far outside that are refused, by the exception that the document names; of several the one documented first.
 */
public final class RangesTest {
    private static final Check CHECK = new Check();
    private static final Trace TRACE = new Trace(CHECK);
    private static final Class<? extends RuntimeException> INDEX = IndexOutOfBoundsException.class;
    private static final Class<? extends RuntimeException> ARGUMENT = IllegalArgumentException.class;
    private static final Class<? extends RuntimeException> STATE = IllegalStateException.class;
    private static final Class<? extends RuntimeException> UNSUPPORTED = UnsupportedOperationException.class;
    private static final Class<? extends RuntimeException> NO_ELEMENT = NoSuchElementException.class;
    private static final int MAX = Integer.MAX_VALUE;
    private static final int MIN = Integer.MIN_VALUE;

    private interface Doing {
        void on(House x, int[] n);
    }

    /** A number of a call: its name, a right one, the least and the greatest that are taken, what a wrong one throws. */
    private record Argument(String name, int valid, int least, int most, Class<? extends RuntimeException> kind) { }

    /** A call: the set-up on which it is taken, and how it is made with numbers. */
    private record Call(String name, Houses.SetUp setUp, Doing doing, List<Argument> arguments) {
        int[] validNumbers() {
            return arguments.stream().mapToInt(Argument::valid).toArray();
        }
    }

    public static void main(String[] args) {
        for (Call call : allCalls()) {
            edgesAreTaken(call);
            wrongNumbersAreRefused(call);
            theFirstExceptionIsThrown(call);
        }
        kinds();
        wrongNumbersComeAheadOfWhatIsFull();
        wrongNumbersComeAheadOfParts();
        wrongNumbersComeAheadOfChains();
        CHECK.end();
    }

    private static Argument hand(int valid) {
        return new Argument("hand", valid, 0, 4, INDEX);
    }

    private static Argument work(int valid) {
        return new Argument("work", valid, 0, 3, INDEX);
    }

    private static Argument use(int valid) {
        return new Argument("use", valid, 0, 3, INDEX);
    }

    private static Argument contract() {
        return new Argument("contract", 1, 0, 1, INDEX);
    }

    private static Argument number(String name, int valid, int least, int most) {
        return new Argument(name, valid, least, most, ARGUMENT);
    }

    private static Argument day() {
        return number("day", 7, 0, 999);
    }

    private static Argument land() {
        return number("land", 1, 0, 2);
    }

    private static Argument text() {
        return number("text", 65, 0, MAX);
    }

    private static Call call(String name, Doing doing, Argument... arguments) {
        return new Call(name, Houses.FILLED, doing, List.of(arguments));
    }

    private static List<Call> allCalls() {
        List<Call> all = new ArrayList<>(changes());
        all.addAll(questionsOfUses());
        all.addAll(questionsOfHandsAndWorks());
        return all;
    }

    private static List<Call> changes() {
        Argument share = number("share", 30, 0, 100);
        Argument claimed = number("share", 30, 1, 100);
        Argument part = number("part", 10, 0, 100);
        Argument handedOn = number("part", 10, 1, 100);
        Argument from = number("from", 5, 0, 10);
        Argument till = number("till", 10, 5, 999);
        Argument money = number("money", 20, 1, 100000);
        Argument rate = number("rate", 3, 0, 1000);
        Argument amount = number("amount", 9, 1, 1000000);
        Argument claim = new Argument("claim", 2, 0, 2, INDEX);
        Argument tax = number("tax", 7, 0, 50);
        List<Call> all = new ArrayList<>();
        all.add(call("2: addHand, a person", (x, n) -> x.addHand(false, n[0]), tax));
        all.add(call("2: addHand, a society", (x, n) -> x.addHand(true, n[0]), tax));
        all.add(call("3: addWork", (x, n) -> x.addWork(n[0]), number("ends", 8, 1, 1000)));
        all.add(call("4: setShare", (x, n) -> x.setShare(n[0], n[1], n[2], n[3]), work(1), hand(2), share, day()));
        all.add(call("5: setPart", (x, n) -> x.setPart(n[0], n[1], n[2]), work(1), new Argument("inner", 2, 0, 3, INDEX),
                part));
        all.add(call("6: assign", (x, n) -> x.assign(n[0], n[1], n[2], n[3], n[4], n[5]), hand(1),
                new Argument("to", 2, 0, 4, INDEX), land(), handedOn, from, till));
        all.add(call("7: advance", (x, n) -> x.advance(n[0], n[1]), contract(), money));
        all.add(call("8: claim", (x, n) -> x.claim(n[0], n[1], n[2], n[3]), work(1), hand(2), claimed, day()));
        all.add(call("9: decide, it holds", (x, n) -> x.decide(n[0], true), claim));
        all.add(call("9: decide, it falls", (x, n) -> x.decide(n[0], false), claim));
        for (char kind : new char[] {'r', 'c', 's'}) {
            all.add(call("10: tariff " + kind, (x, n) -> x.tariff(kind, n[0], n[1]), land(), rate));
            all.add(call("11: use " + kind, (x, n) -> x.use(kind, n[0], n[1], n[2], n[3]), land(), text(), amount, day()));
        }
        all.add(call("12: nameOf", (x, n) -> x.nameOf(n[0], n[1]), work(1), text()));
        return all;
    }

    private static List<Call> questionsOfUses() {
        Argument firstOrLast = new Argument("index", 0, 0, 0, NO_ELEMENT);
        List<Call> all = new ArrayList<>();
        all.add(call("13: matched", (x, n) -> x.matched(n[0]), use(1)));
        all.add(call("14: likeness", (x, n) -> x.likeness(n[0], n[1]), use(1), work(1)));
        all.add(call("15: gross", (x, n) -> x.gross(n[0]), use(1)));
        all.add(call("16: share", (x, n) -> x.share(n[0], n[1]), use(1), hand(1)));
        all.add(call("17: held", (x, n) -> x.held(n[0]), use(1)));
        all.add(call("18: open", (x, n) -> x.open(n[0]), use(1)));
        all.add(call("19: gets", (x, n) -> x.gets(n[0], n[1]), use(1), hand(1)));
        all.add(new Call("24: paidIn", Houses.PAID, (x, n) -> x.paidIn(n[0]), List.of(use(1))));
        all.add(call("26: chain", (x, n) -> x.chain(n[0], n[1]), use(0), hand(0)));
        all.add(call("27: chainAt, one hand", (x, n) -> x.chainAt(n[0], n[1], n[2]), use(0), hand(0), firstOrLast));
        all.add(call("27: chainAt, two hands", (x, n) -> x.chainAt(0, 2, n[0]),
                new Argument("index", 0, 0, 1, NO_ELEMENT)));
        return all;
    }

    private static List<Call> questionsOfHandsAndWorks() {
        List<Call> all = new ArrayList<>();
        all.add(call("20: account", (x, n) -> x.account(n[0]), hand(1)));
        all.add(call("21: tax", (x, n) -> x.tax(n[0]), hand(1)));
        all.add(call("22: notRecouped", (x, n) -> x.notRecouped(n[0]), contract()));
        all.add(call("25: statement", (x, n) -> x.statement(n[0], n[1]), new Argument("period", 1, 0, 1, INDEX), hand(1)));
        all.add(call("28: shareOn", (x, n) -> x.shareOn(n[0], n[1], n[2]), work(1), hand(1), day()));
        all.add(call("29: isDisputed", (x, n) -> x.isDisputed(n[0], n[1]), work(1), day()));
        return all;
    }

    // ---- what is asked of each call

    private static void edgesAreTaken(Call call) {
        isTaken(call.name, call, call.validNumbers());
        for (int place = 0; place < call.arguments.size(); place++) {
            Argument argument = call.arguments.get(place);
            isTaken(call.name + ", the least " + argument.name, call, changed(call.validNumbers(), place, argument.least));
            isTaken(call.name + ", the greatest " + argument.name, call, changed(call.validNumbers(), place, argument.most));
        }
    }

    private static void isTaken(String what, Call call, int[] numbers) {
        String outcome = "taken";
        try {
            call.doing.on(call.setUp.make(), numbers);
        } catch (RuntimeException thrown) {
            outcome = thrown.getClass().getSimpleName();
        }
        CHECK.is(what + " is taken", outcome, "taken");
    }

    private static int[] changed(int[] numbers, int place, int value) {
        int[] changed = numbers.clone();
        changed[place] = value;
        return changed;
    }

    private static void wrongNumbersAreRefused(Call call) {
        for (int place = 0; place < call.arguments.size(); place++) {
            Argument argument = call.arguments.get(place);
            for (int wrong : allWrong(argument)) {
                int[] numbers = changed(call.validNumbers(), place, wrong);
                TRACE.refused(call.name + ", " + argument.name + " " + wrong, call.setUp, argument.kind,
                        x -> call.doing.on(x, numbers));
            }
        }
    }

    /** Next to the edges, at what the house has room for, where a narrower type would wrap around, and far outside. */
    private static Iterable<Integer> allWrong(Argument argument) {
        TreeSet<Integer> wrong = new TreeSet<>();
        int[] rooms = {11, 12, 15, 16, 19, 20, 29, 30, 59, 60};
        for (int room : rooms) {
            wrong.add(room);
        }
        for (int step : new int[] {1, 2, 256, 1000, 65536, 1 << 24}) {
            wrong.add(argument.least - step);
            wrong.add(argument.most + step);
        }
        wrong.addAll(List.of(-1, MIN, MIN + 1, MAX - 1, MAX));
        wrong.removeIf(number -> argument.least <= number && number <= argument.most);
        return wrong;
    }

    private static int[] nextWrong(Argument argument) {
        return argument.most == MAX ? new int[] {-1} : new int[] {argument.least - 1, argument.most + 1};
    }

    private static void theFirstExceptionIsThrown(Call call) {
        List<Argument> arguments = call.arguments;
        for (int one = 0; one < arguments.size(); one++) {
            for (int other = one + 1; other < arguments.size(); other++) {
                for (int first : nextWrong(arguments.get(one))) {
                    for (int second : nextWrong(arguments.get(other))) {
                        int[] numbers = changed(changed(call.validNumbers(), one, first), other, second);
                        refusedByTheFirst(call, numbers);
                    }
                }
            }
        }
        int[] allWrong = arguments.stream().mapToInt(argument -> argument.least - 1).toArray();
        refusedByTheFirst(call, allWrong);
    }

    private static void refusedByTheFirst(Call call, int[] numbers) {
        TRACE.refused(call.name + " " + Arrays.toString(numbers), call.setUp, firstKind(call, numbers),
                x -> call.doing.on(x, numbers));
    }

    /** The document names no such number ahead of a number out of range, and this ahead of a place that is missing. */
    private static Class<? extends RuntimeException> firstKind(Call call, int[] numbers) {
        for (Class<? extends RuntimeException> kind : List.of(INDEX, ARGUMENT, NO_ELEMENT)) {
            for (int i = 0; i < numbers.length; i++) {
                Argument argument = call.arguments.get(i);
                boolean isWrong = numbers[i] < argument.least || numbers[i] > argument.most;
                if (isWrong && argument.kind == kind) {
                    return kind;
                }
            }
        }
        throw new AssertionError("no number is wrong");
    }

    // ---- what no range of numbers tells

    private static void kinds() {
        for (int sign = 0; sign <= Character.MAX_VALUE; sign++) {
            char kind = (char) sign;
            boolean isKind = kind == 'r' || kind == 'c' || kind == 's';
            boolean isNear = sign < 256 || (sign & 127) == 'r' || (sign & 127) == 'c' || (sign & 127) == 's';
            if (!isKind && isNear) {
                CHECK.refused("10: kind " + sign, ARGUMENT, () -> Houses.FILLED.make().tariff(kind, 0, 1));
                CHECK.refused("11: kind " + sign, ARGUMENT, () -> Houses.FILLED.make().use(kind, 0, 1, 1, 0));
            }
        }
        for (char kind : new char[] {'R', 'C', 'S', 'a', 'b', 'd', 'q', 't', 'x', '\0', ' ', (char) ('r' + 256), '\uffff'}) {
            TRACE.refused("10: kind " + (int) kind, ARGUMENT, x -> x.tariff(kind, 0, 1));
            TRACE.refused("11: kind " + (int) kind, ARGUMENT, x -> x.use(kind, 0, 1, 1, 0));
            TRACE.refused("11: all but the day, kind " + (int) kind, ARGUMENT, x -> x.use(kind, 3, -1, 0, 0));
            TRACE.refused("11: a 61st use of kind " + (int) kind, Houses.FULL_USES, ARGUMENT, x -> x.use(kind, 0, 1, 1, 0));
        }
    }

    private static void wrongNumbersComeAheadOfWhatIsFull() {
        for (Call call : changes()) {
            Houses.SetUp full = fullFor(call.name);
            if (full == null) {
                continue;
            }
            TRACE.refused(call.name + " on " + full.name(), full, STATE, x -> call.doing.on(x, atFullPlace(call)));
            for (int place = 0; place < call.arguments.size(); place++) {
                Argument argument = call.arguments.get(place);
                for (int wrong : nextWrong(argument)) {
                    int[] numbers = changed(atFullPlace(call), place, wrong);
                    TRACE.refused(call.name + ", " + argument.name + " " + wrong + " on " + full.name(), full, argument.kind,
                            x -> call.doing.on(x, numbers));
                }
            }
        }
        TRACE.refused("6: both hands are the same on 12 contracts", Houses.FULL_CONTRACTS, ARGUMENT,
                x -> x.assign(1, 1, 0, 1, 0, 0));
    }

    /** Only work 0 has three titles in that house. */
    private static int[] atFullPlace(Call call) {
        return call.name.startsWith("12") ? changed(call.validNumbers(), 0, 0) : call.validNumbers();
    }

    private static Houses.SetUp fullFor(String name) {
        switch (name.substring(0, name.indexOf(':'))) {
            case "2": return Houses.FULL_HANDS;
            case "3": return Houses.FULL_WORKS;
            case "6": return Houses.FULL_CONTRACTS;
            case "8": return Houses.FULL_CLAIMS;
            case "11": return Houses.FULL_USES;
            case "12": return Houses.FULL_TITLES;
            default: return null;
        }
    }

    private static void wrongNumbersComeAheadOfParts() {
        TRACE.refused("5: a wrong part of a work within itself", ARGUMENT, x -> x.setPart(0, 0, 101));
        TRACE.refused("5: a part of -1 of a work within itself", ARGUMENT, x -> x.setPart(0, 0, -1));
        TRACE.refused("5: a wrong part round by another work", ARGUMENT, x -> x.setPart(2, 0, 101));
        TRACE.refused("5: no such work, of a work within itself", INDEX, x -> x.setPart(4, 4, 1));
        TRACE.refused("5: work -1 within itself", INDEX, x -> x.setPart(-1, -1, 101));
        TRACE.refused("5: a sum past 100 of a work within itself", UNSUPPORTED, x -> x.setPart(0, 0, 100));
        TRACE.refused("6: a wrong land, both hands the same", ARGUMENT, x -> x.assign(1, 1, 3, 1, 0, 0));
        TRACE.refused("6: no such hand, both the same", INDEX, x -> x.assign(5, 5, 0, 1, 0, 0));
        TRACE.refused("6: no such hand, the last day ahead of the first", INDEX, x -> x.assign(0, 5, 0, 1, 9, 8));
        TRACE.refused("6: hand -1, both the same", INDEX, x -> x.assign(-1, -1, 3, 0, 9, 8));
    }

    private static void wrongNumbersComeAheadOfChains() {
        TRACE.refused("26: no such hand of a use that is not known", INDEX, x -> x.chain(2, 5));
        TRACE.refused("26: hand -1 of a use that is not known", INDEX, x -> x.chain(2, -1));
        TRACE.refused("26: no such use of a society", INDEX, x -> x.chain(4, 3));
        TRACE.refused("27: no such hand, no such place", INDEX, x -> x.chainAt(2, 5, 9));
        TRACE.refused("27: no such use, no such place", INDEX, x -> x.chainAt(4, 3, -1));
        TRACE.refused("27: neither a chain nor such a place", NO_ELEMENT, x -> x.chainAt(2, 0, 9));
        TRACE.refused("24: no such use, nothing was paid", INDEX, x -> x.paidIn(4));
    }
}
