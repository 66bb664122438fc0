import java.lang.reflect.InvocationTargetException;
import java.lang.reflect.Method;
import java.util.ArrayList;
import java.util.List;
import java.util.Map;
import java.util.Random;
import java.util.TreeMap;

/** Runs of calls that are drawn, always the same ones, answered by RoyalTree and by PlainTree alike. */
public final class RandomRunsTest {
    private static final Check CHECK = new Check();
    private static final int CALLS = 512;
    private static final Map<String, Method> PLAIN = new TreeMap<>();
    private static final Map<String, Method> REAL = new TreeMap<>();

    private final Random random;
    private final int manyHands;
    private final int manyWorks;
    private final int manyDays;
    private final int manyWords;
    private final int askedHundredths;
    private final int wrongHundredths;
    private final boolean isCalm;
    private final int[] texts = new int[8];
    private int drawnClaims = 1;

    private RandomRunsTest(long seed) {
        random = new Random(seed);
        manyHands = pick(2, 5, 8, 16);
        manyWorks = pick(1, 3, 6, 20);
        manyDays = pick(3, 20, 1000);
        manyWords = pick(2, 4, 64);
        askedHundredths = pick(30, 60);
        wrongHundredths = pick(0, 3, 10);
        isCalm = random.nextInt(4) != 0;
        for (int i = 0; i < texts.length; i++) {
            texts[i] = freshText();
        }
    }

    private int pick(int... of) {
        return of[random.nextInt(of.length)];
    }

    public static void main(String[] args) throws ReflectiveOperationException {
        int runs = args.length > 0 ? Integer.parseInt(args[0]) : 400;
        long first = args.length > 1 ? Long.parseLong(args[1]) : 1;
        for (Method method : RoyalTree.class.getDeclaredMethods()) {
            if (java.lang.reflect.Modifier.isPublic(method.getModifiers())) {
                REAL.put(method.getName(), method);
                Method plain = PlainTree.class.getDeclaredMethod(method.getName(), method.getParameterTypes());
                plain.setAccessible(true);
                PLAIN.put(method.getName(), plain);
            }
        }
        for (long seed = first; seed < first + runs; seed++) {
            new RandomRunsTest(seed).run(seed);
        }
        CHECK.end();
    }

    private void run(long seed) throws ReflectiveOperationException {
        RoyalTree real = new RoyalTree();
        PlainTree plain = new PlainTree();
        StringBuilder told = new StringBuilder();
        for (int i = 0; i < CALLS; i++) {
            String name = i < manyHands ? "addHand" : i < manyHands + manyWorks ? "addWork" : drawName();
            Object[] arguments = drawArguments(name);
            if (random.nextInt(100) < wrongHundredths && arguments.length > 0) {
                spoil(arguments);
            }
            Object due = answer(PLAIN.get(name), plain, arguments);
            Object got = answer(REAL.get(name), real, arguments);
            told.append(name).append(List.of(arguments)).append(" = ").append(due).append('\n');
            drawnClaims = Math.min(20, drawnClaims + (name.equals("claim") ? 1 : 0));
            CHECK.is("seed " + seed + " call " + i + " " + name + List.of(arguments), got, due);
            if (!due.equals(got)) {
                System.out.print(told);
                return;
            }
        }
    }

    private static Object answer(Method method, Object of, Object[] arguments) throws IllegalAccessException {
        try {
            return method.invoke(of, arguments);
        } catch (InvocationTargetException thrown) {
            return thrown.getCause().getClass().getSimpleName();
        }
    }

    private static final List<String> CHANGES = List.of("setShare", "setShare", "setShare", "setShare", "setShare",
            "setPart", "setPart", "assign", "assign", "advance", "claim", "decide", "decide", "tariff", "use", "use", "use",
            "nameOf", "nameOf", "period", "addHand", "addWork");
    private static final List<String> QUESTIONS = List.of("matched", "likeness", "gross", "share", "held", "open", "gets",
            "gets", "account", "account", "tax", "tax", "notRecouped", "paidIn", "statement", "chain", "chain", "chainAt",
            "chainAt", "shareOn", "isDisputed", "works", "uses", "pot", "holds", "knownBits", "meanBits", "isSound");

    private static final List<String> CALM_CHANGES = List.of("setShare", "setShare", "setShare", "setShare", "setPart",
            "assign", "assign", "advance", "use", "use", "use", "nameOf", "period");

    private String drawName() {
        List<String> changes = isCalm && random.nextInt(8) != 0 ? CALM_CHANGES : CHANGES;
        List<String> names = random.nextInt(100) < askedHundredths ? QUESTIONS : changes;
        return names.get(random.nextInt(names.size()));
    }

    private int drawShare() {
        return isCalm ? Math.min(100, pick(0, 50, 100, 130, 190) / manyHands) : pick(0, 7, 20, 33, 50, 60, 100);
    }

    private int hand() {
        return random.nextInt(manyHands);
    }

    private int work() {
        return random.nextInt(manyWorks);
    }

    private int day() {
        return random.nextInt(manyDays);
    }

    private int text() {
        return random.nextInt(3) == 0 ? freshText() : texts[random.nextInt(texts.length)];
    }

    private int freshText() {
        if (random.nextInt(20) == 0) {
            return random.nextInt() & Integer.MAX_VALUE;
        }
        int text = 0;
        for (int i = random.nextInt(6); i > 0; i--) {
            text = text * 64 + random.nextInt(manyWords);
        }
        return text;
    }

    private Object[] drawArguments(String name) {
        switch (name) {
            case "addHand": return new Object[] {random.nextInt(4) == 0, pick(0, 10, 33, 50)};
            case "addWork": return new Object[] {random.nextInt(3) == 0 ? 1 + day() : 1000};
            case "setShare": return new Object[] {work(), hand(), drawShare(), day()};
            case "setPart": return new Object[] {work(), work(), pick(0, 5, 10, 33, 50, 100)};
            case "assign": return drawContract();
            case "advance": return new Object[] {random.nextInt(12), pick(1, 17, 300, 4000, 100000)};
            case "claim": return new Object[] {work(), hand(), pick(1, 10, 50, 100), day()};
            case "decide": return new Object[] {random.nextInt(drawnClaims), random.nextBoolean()};
            case "tariff": return new Object[] {"rcs".charAt(random.nextInt(3)), random.nextInt(3), pick(0, 1, 7, 333, 1000)};
            case "use": return drawUse();
            case "nameOf": return new Object[] {work(), text()};
            default: return drawQuestion(name);
        }
    }

    private Object[] drawContract() {
        int one = day();
        int other = random.nextBoolean() ? manyDays - 1 : day();
        int land = random.nextInt(3) * random.nextInt(2);
        return new Object[] {hand(), hand(), land, pick(1, 10, 33, 50, 99, 100), Math.min(one, other), Math.max(one, other)};
    }

    private Object[] drawUse() {
        char kind = "rrcs".charAt(random.nextInt(4));
        int land = random.nextInt(3) * random.nextInt(2);
        return new Object[] {kind, land, text(), pick(1, 7, 100, 999, 12345, 1000000), day()};
    }

    private Object[] drawQuestion(String name) {
        int use = random.nextInt(random.nextInt(4) == 0 ? 60 : 10);
        switch (name) {
            case "likeness": return new Object[] {use, work()};
            case "share": case "gets": case "chain": return new Object[] {use, hand()};
            case "chainAt": return new Object[] {use, hand(), random.nextInt(4)};
            case "account": case "tax": return new Object[] {hand()};
            case "notRecouped": return new Object[] {random.nextInt(12)};
            case "statement": return new Object[] {random.nextInt(random.nextInt(3) == 0 ? 30 : 4), hand()};
            case "shareOn": return new Object[] {work(), hand(), day()};
            case "isDisputed": return new Object[] {work(), day()};
            case "matched": case "gross": case "held": case "open": case "paidIn": return new Object[] {use};
            default: return new Object[0];
        }
    }

    /** Puts one or several arguments to or past an edge. */
    private void spoil(Object[] arguments) {
        List<Integer> places = new ArrayList<>();
        for (int i = 0; i <= random.nextInt(2); i++) {
            places.add(random.nextInt(arguments.length));
        }
        for (int place : places) {
            if (arguments[place] instanceof Integer) {
                arguments[place] = pick(-1, 0, 1, 3, 12, 16, 20, 50, 51, 60, 99, 100, 101, 999, 1000, 1001, 100001, 1000001,
                        Integer.MIN_VALUE, Integer.MAX_VALUE);
            } else if (arguments[place] instanceof Character) {
                arguments[place] = "rcsRx\0\uffff".charAt(random.nextInt(7));
            }
        }
    }
}
