import java.lang.reflect.InvocationTargetException;
import java.lang.reflect.Method;
import java.lang.reflect.Modifier;
import java.util.ArrayList;
import java.util.Comparator;
import java.util.HashSet;
import java.util.List;
import java.util.Random;
import java.util.Set;

/**
 * Any calls in any state, behind the 512th too: what is answered there is free, but a call throws nothing but what the
 * document names for it, and never what the machine itself throws.
 */
public final class AnyCallsTest {
    private static final Check CHECK = new Check();
    private static final int RUNS = 200;
    private static final int CALLS = 2000;
    private static final int[] NUMBERS = {Integer.MIN_VALUE, -1, 0, 0, 1, 1, 2, 2, 3, 4, 5, 6, 7, 8, 9, 10, 11, 12, 14, 15, 16,
            17, 18, 19, 20, 21, 29, 30, 31, 50, 51, 59, 60, 61, 100, 101, 999, 1000, 1001, 100000, 1000001, Integer.MAX_VALUE};

    public static void main(String[] args) throws ReflectiveOperationException {
        List<Method> face = new ArrayList<>();
        for (Method method : RoyalTree.class.getDeclaredMethods()) {
            if (Modifier.isPublic(method.getModifiers())) {
                face.add(method);
            }
        }
        // The machine tells them in no order that is promised.
        face.sort(Comparator.comparing(Method::getName));
        Set<Method> answered = new HashSet<>();
        for (int run = 0; run < RUNS; run++) {
            tryCalls(run, face, answered);
        }
        CHECK.is("each call was answered at least once", answered.size(), face.size());
        CHECK.end();
    }

    private static void tryCalls(int run, List<Method> face, Set<Method> answered) throws IllegalAccessException {
        Random random = new Random(run);
        // Small numbers fill a house, any numbers ask of its edges.
        int greatest = run % 3 == 0 ? NUMBERS.length : 4 + random.nextInt(20);
        RoyalTree tree = new RoyalTree();
        begin(tree, run % 5);
        if (run % 10 == 9) {
            setManyShares(tree);
        }
        for (int call = 0; call < CALLS; call++) {
            Method method = face.get(random.nextInt(face.size()));
            Object[] arguments = new Object[method.getParameterCount()];
            for (int i = 0; i < arguments.length; i++) {
                arguments[i] = draw(random, method.getParameterTypes()[i], greatest);
            }
            try {
                method.invoke(tree, arguments);
                answered.add(method);
            } catch (InvocationTargetException thrown) {
                Class<?> kind = thrown.getCause().getClass();
                boolean isNamed = List.of(method.getExceptionTypes()).contains(kind);
                CHECK.is("run " + run + " call " + call + ": " + method.getName() + List.of(arguments) + " throws " + kind,
                        isNamed && isWritten(thrown.getCause()), true);
            }
        }
    }

    /** Some works that are named and have shares, so that money comes to hands. */
    private static void begin(RoyalTree tree, int many) {
        for (int i = 0; i < many; i++) {
            tree.addHand(false, i);
            tree.addWork(1000);
            tree.setShare(i, i, 60, 0);
            tree.nameOf(i, i + 1);
        }
    }

    /** More shares than the promised calls could set. */
    private static void setManyShares(RoyalTree tree) {
        for (int day = 0; day < 600; day++) {
            tree.setShare(0, 0, 60, day);
        }
    }

    /** The machine's own division by zero is of a kind that the document names too; its text is not one of the class. */
    private static boolean isWritten(Throwable thrown) {
        return !"/ by zero".equals(thrown.getMessage());
    }

    private static Object draw(Random random, Class<?> type, int greatest) {
        if (type == boolean.class) {
            return random.nextBoolean();
        }
        if (type == char.class) {
            return random.nextInt(20) == 0 ? (char) random.nextInt(0x10000) : "rcs".charAt(random.nextInt(3));
        }
        if (random.nextInt(30) == 0) {
            return random.nextInt();
        }
        int from = random.nextInt(20) == 0 ? 0 : 2;
        return random.nextInt(8) == 0 ? NUMBERS[random.nextInt(NUMBERS.length)]
                : NUMBERS[from + random.nextInt(greatest - from)];
    }
}
