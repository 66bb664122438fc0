import java.io.IOException;
import java.nio.file.Files;
import java.nio.file.Path;
import java.util.Set;

/** The program keeps to LANGUAGE.md, and the rules that say so refuse a program that does not. */
public final class LanguageTest {
    private static final Check CHECK = new Check();
    private static final String HEAD = "public final class RoyalTree { private static final int MOST_DEEP = 9; ";

    public static void main(String[] args) throws IOException {
        String source = Files.readString(Path.of("src/main/java/RoyalTree.java"));
        CHECK.is("what of LANGUAGE.md the program breaks", LanguageRules.faultsOf(source), Set.of());
        whatIsFine();
        whatIsRuledOut();
        whatIsTooMuch();
        CHECK.end();
    }

    private static void fine(String members) throws IOException {
        CHECK.is(members, LanguageRules.faultsOf(HEAD + members + " }"), Set.of());
    }

    /** The members break this rule, and no other one. */
    private static void broken(int rule, String members) throws IOException {
        Set<String> faults = LanguageRules.faultsOf(HEAD + members + " }");
        boolean ofThisRule = !faults.isEmpty();
        for (String fault : faults) {
            ofThisRule &= fault.startsWith("rule " + rule + ":");
        }
        CHECK.is("rule " + rule + " by " + members + " " + faults, ofThisRule, true);
    }

    private static void whatIsFine() throws IOException {
        fine("private final int[][] table = new int[2][2]; private final boolean[] row = new boolean[2];");
        fine("private static final class Row { final long[] row = new long[2]; int count() { return 2; } }");
        fine("private int half(int of) { return of / 2; }");
        fine("private int part(int of, int by) { return by == 0 ? 0 : of / by; }");
        fine("private void need(int n) { if (n < 0) { throw new IllegalArgumentException(\"less than 0\"); } }");
        fine("private int down(int deep) { return deep >= MOST_DEEP ? 0 : down(deep + 1); }");
        fine("private int sum() { int sum = 0; for (int i = 0; i < 9; i++) { sum += i; } return sum; }");
    }

    private static void whatIsRuledOut() throws IOException {
        broken(1, "int seen;");
        broken(1, "int seen() { return 0; }");
        broken(1, "public int face() { return face(1); } private int face(int n) { return n; }");
        broken(1, "} class Second {");
        broken(2, "private final class Inner { }");
        broken(2, "public static final class Inner { }");
        broken(2, "private int wait(int n) { while (n < 9) { n++; } return n; }");
        broken(2, "private boolean is(RoyalTree other) { return other instanceof RoyalTree; }");
        broken(3, "private final int[][][] cube = new int[2][2][2];");
        broken(3, "private final boolean[][] table = new boolean[2][2];");
        broken(3, "private final java.util.Map<Integer, Integer> map = null;");
        broken(4, "private long now() { return System.nanoTime(); }");
        broken(4, "private int sum(int a, int b) { return Math.addExact(a, b); }");
        broken(4, "private int bits(float f) { return Float.floatToIntBits(f); }");
        broken(4, "private static final char SIGN = '" + (char) 233 + "';");
        broken(5, "private static int count = 0;");
        broken(5, "private static final int[] ROW = new int[3];");
        broken(6, "private void need() { throw new NullPointerException(\"none\"); }");
        broken(6, "private void need() { throw new IllegalStateException(\"none\", null); }");
        broken(6, "public RoyalTree() { throw new IllegalStateException(); }");
        broken(7, "private int part(int of, int by) { return of / by; }");
        broken(7, "private int rest(int of, int by) { return of % by; }");
        broken(8, "private int down(int deep) { return deep <= 0 ? 0 : down(deep - 1); }");
        broken(8, "private int there(int n) { return back(n); } private int back(int n) { return there(n); }");
        broken(9, "private void wait(int n) { for (int i = 0; i < n; i++) { i--; } }");
        broken(9, "private int wait(int n) { for (; ; ) { n++; } }");
        broken(10, "private boolean isNone(int n) { return null == \"a\" + n; }");
        broken(12, "private int[] row() { return new int[3]; }");
        broken(12, "private RoyalTree other() { return new RoyalTree(); }");
    }

    private static void whatIsTooMuch() throws IOException {
        broken(11, "private int many(int a, int b, int c, int d, int e, int f, int g, int h) { return a; }");
        broken(11, "private int a(int n) {" + "\n n++;".repeat(60) + " return n; }");
        StringBuilder fields = new StringBuilder();
        StringBuilder classes = new StringBuilder();
        StringBuilder deep = new StringBuilder("private int a0() { return 0; } ");
        for (int i = 1; i <= 21; i++) {
            fields.append("private int field").append(i).append("; ");
        }
        for (int i = 1; i <= 12; i++) {
            classes.append("private static final class Row").append(i).append(" { } ");
        }
        for (int i = 1; i <= 8; i++) {
            deep.append("private int a").append(i).append("() { return a").append(i - 1).append("(); } ");
        }
        broken(11, fields.toString());
        broken(11, classes.toString());
        broken(11, deep.toString());
    }
}
