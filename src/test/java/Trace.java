import java.util.ArrayList;
import java.util.Collections;
import java.util.HashMap;
import java.util.List;
import java.util.Map;
import java.util.function.Consumer;
import java.util.function.Function;

/** Whether a refused call leaves a trace: all that a house answers behind it, against a house without the call. */
final class Trace {
    /** Some questions, asked one behind the other on a house of their own, so that no house has too many calls. */
    private record Page(List<Function<House, Object>> questions) { }

    private static final int QUESTIONS_OF_A_PAGE = 200;

    private final Check check;
    private final Map<Houses.SetUp, List<Page>> pages = new HashMap<>();
    private final Map<Page, String> due = new HashMap<>();

    Trace(Check check) {
        this.check = check;
    }

    /** The call throws just this kind of exception, and changes nothing. */
    void refused(String what, Houses.SetUp setUp, Class<? extends RuntimeException> kind, Consumer<House> call) {
        check.refused(what, kind, () -> call.accept(setUp.make()));
        boolean leavesNone = true;
        for (Page page : pages.computeIfAbsent(setUp, s -> pagesFor(s, true))) {
            String untouched = due.computeIfAbsent(page, p -> answers(setUp.make(), p));
            House tried = setUp.make();
            makeCall(call, tried);
            leavesNone &= untouched.equals(answers(tried, page));
        }
        check.is(what + " (changes nothing)", leavesNone, true);
    }

    /** Refused as on any house that is filled, but not full. */
    void refused(String what, Class<? extends RuntimeException> kind, Consumer<House> call) {
        refused(what, Houses.FILLED, kind, call);
    }

    /** Each question has the same answer whether it is the first one on a house, or the last one, or one in between. */
    void questionsChangeNothing(Houses.SetUp setUp) {
        for (Page page : pagesFor(setUp, false)) {
            List<String> inOrder = eachAnswer(setUp.make(), page.questions());
            List<Function<House, Object>> backwards = new ArrayList<>(page.questions());
            Collections.reverse(backwards);
            List<String> lastFirst = eachAnswer(setUp.make(), backwards);
            Collections.reverse(lastFirst);
            List<String> alone = new ArrayList<>();
            for (Function<House, Object> question : page.questions()) {
                alone.add(answer(setUp.make(), question));
            }
            check.is(setUp.name() + ": asked in order", inOrder, alone);
            check.is(setUp.name() + ": asked backwards", lastFirst, alone);
        }
    }

    private static List<String> eachAnswer(House x, List<Function<House, Object>> questions) {
        List<String> answers = new ArrayList<>();
        for (Function<House, Object> question : questions) {
            answers.add(answer(x, question));
        }
        return answers;
    }

    private static void makeCall(Consumer<House> call, House on) {
        try {
            call.accept(on);
        } catch (RuntimeException thrown) {
            // That it throws, and what, was asked ahead of this.
        }
    }

    private static String answers(House x, Page page) {
        return String.join(" ", eachAnswer(x, page.questions()));
    }

    private static String answer(House x, Function<House, Object> question) {
        try {
            return String.valueOf(question.apply(x));
        } catch (RuntimeException thrown) {
            return thrown.getClass().getSimpleName();
        }
    }

    private static List<Page> pagesFor(Houses.SetUp setUp, boolean goesOn) {
        List<Function<House, Object>> all = new ArrayList<>();
        askFigures(all, setUp);
        for (int use = 0; use <= setUp.uses(); use++) {
            askUse(all, setUp, use);
        }
        for (int work = 0; work <= setUp.works(); work++) {
            askWork(all, setUp, work);
        }
        List<Page> pages = new ArrayList<>();
        for (int from = 0; from < all.size(); from += QUESTIONS_OF_A_PAGE) {
            pages.add(new Page(List.copyOf(all.subList(from, Math.min(all.size(), from + QUESTIONS_OF_A_PAGE)))));
        }
        if (goesOn) {
            List<Function<House, Object>> further = new ArrayList<>();
            goOn(further, setUp);
            pages.add(new Page(further));
        }
        return pages;
    }

    private static void askFigures(List<Function<House, Object>> all, Houses.SetUp setUp) {
        all.addAll(List.of(House::works, House::uses, House::pot, House::holds));
        all.addAll(List.of(House::knownBits, House::meanBits, House::isSound));
        for (int n = 0; n <= 12; n++) {
            int contract = n;
            all.add(x -> x.notRecouped(contract));
        }
        for (int n = 0; n <= setUp.hands(); n++) {
            int hand = n;
            all.addAll(List.of(x -> x.account(hand), x -> x.tax(hand)));
            for (int period : new int[] {0, 1, 2, 29, 30}) {
                all.add(x -> x.statement(period, hand));
            }
        }
    }

    private static void askUse(List<Function<House, Object>> all, Houses.SetUp setUp, int use) {
        all.addAll(List.of(x -> x.matched(use), x -> x.gross(use), x -> x.held(use), x -> x.open(use)));
        all.add(x -> x.paidIn(use));
        for (int n = 0; n <= Math.min(setUp.works(), 5); n++) {
            int work = n;
            all.add(x -> x.likeness(use, work));
        }
        for (int n = 0; n <= Math.min(setUp.hands(), 6); n++) {
            int hand = n;
            all.addAll(List.of(x -> x.share(use, hand), x -> x.gets(use, hand), x -> x.chain(use, hand)));
            all.addAll(List.of(x -> x.chainAt(use, hand, 0), x -> x.chainAt(use, hand, 1)));
        }
    }

    private static void askWork(List<Function<House, Object>> all, Houses.SetUp setUp, int work) {
        for (int day : new int[] {0, 4, 5, 6, 9, 10, 899, 900, 999}) {
            all.add(x -> x.isDisputed(work, day));
        }
        for (int day : new int[] {0, 5, 10, 999}) {
            for (int n = 0; n <= Math.min(setUp.hands(), 6); n++) {
                int hand = n;
                all.add(x -> x.shareOn(work, hand, day));
            }
        }
    }

    /** Calls that change, whose answers tell what was counted so far; the figures behind them tell the rest. */
    private static void goOn(List<Function<House, Object>> all, Houses.SetUp setUp) {
        for (int i = 0; i < 9; i++) {
            char kind = "rcs".charAt(i % 3);
            int land = i / 3;
            all.add(x -> x.tariff(kind, land, 5));
        }
        for (int n = 0; n <= setUp.works(); n++) {
            int work = n;
            all.addAll(List.of(x -> x.setShare(work, 0, 0, 999), x -> x.setPart(work, (work + 1) % 20, 0)));
            all.add(x -> x.nameOf(work, Houses.words(50)));
        }
        for (int n = 0; n <= 20; n++) {
            int claim = n;
            all.add(x -> x.decide(claim, true));
        }
        all.addAll(List.of(x -> x.claim(0, 0, 1, 0), x -> x.assign(0, 1, 0, 1, 0, 0), x -> x.use('r', 0, 1, 1, 0)));
        all.addAll(List.of(x -> x.nameOf(0, 1), x -> x.nameOf(0, 1), x -> x.nameOf(0, 1)));
        all.addAll(List.of(x -> x.addHand(false, 0), x -> x.addWork(1), House::period, House::pot, House::holds));
        for (int n = 0; n <= 12; n++) {
            int contract = n;
            all.add(x -> x.advance(contract, 1));
        }
        for (int n = 0; n <= setUp.hands(); n++) {
            int hand = n;
            all.addAll(List.of(x -> x.account(hand), x -> x.tax(hand)));
        }
    }
}
