import java.io.IOException;
import java.nio.file.Files;
import java.nio.file.Path;
import java.util.List;
import java.util.TreeSet;

/** The rules of LANGUAGE.md that can be seen in the class's syntax tree, and that the look at it would see a breach. */
public final class LanguageTest {
    private static final String CLASS = "public final class GraphKeep { %s }";

    private static final Due due = new Due("LanguageTest");

    public static void main(String[] args) throws IOException {
        due.part("GraphKeep.java");
        List<String> breaches = Rules.breaches(Files.readString(Path.of("src/main/java/GraphKeep.java")));
        due.is("breaches", breaches, "[]");
        breachesAreSeen();
        due.end();
    }

    private static void breachesAreSeen() {
        due.part("a breach is seen");
        seen("[]", "private int most(int a) { return Math.max(a, 1); }");
        seen("[1]", "int open() { return 1; }");
        seen("[1]", "int open = 1;");
        seen("[1]", "public int one() { return 1; } private int one(int a) { return a; }");
        seen("[1]", "public static class Inside { }");
        seen("[2]", "private interface Ask { int of(); } private Ask ask() { return () -> 1; }");
        seen("[3]", "private int[][][] rows;");
        seen("[3]", "private Object any;");
        seen("[4]", "private long most() { return Math.addExact(1L, 2L); }");
        seen("[4]", "private int most(String a) { return a.hashCode(); }");
        seen("[5]", "private static int count;");
        seen("[5]", "private static final int[] COUNT = new int[1];");
        seen("[5]", "static { }");
        seen("[6]", "private int one() { try { return most(); } catch (RuntimeException e) { return 1; } }"
            + " private int most() { return 2; }");
        seen("[6]", "private void one() { throw new Error(); }");
        seen("[6]", "private void one(String a) { throw new IllegalStateException(a); }");
        seen("[6]", "private void one() { throw most(); } private RuntimeException most() { return null; }");
        seen("[6]", "public GraphKeep() { throw new IllegalStateException(); }");
        seen("[6]", "private boolean same(String a, String b) { return a == b; }");
        seen("[6]", "private static class A { } private static class B extends A { } private B b(A a) { return (B) a; }");
        seen("[6]", "private synchronized void one() { }");
        seen("[7]", "private int part(int a) { return 7 / a; }");
        seen("[7]", "private int part(int a) { a %= 7; return a; }");
        seen("[8]", "private void one() { other(); } private void other() { one(); }");
        seen("[10]", "private String join(String a) { return a + 1; }");
        seen("[11]", "private void one(int a, int b, int c, int d, int e, int f, int g, int h) { }");
        seen("[11]", "private void one() {" + "\n".repeat(70) + "}");
        seen("[11]", deep(9));
        seen("[]", deep(8));
    }

    /** So many methods, each of which calls the next one. */
    private static String deep(int calls) {
        StringBuilder text = new StringBuilder();
        for (int i = 0; i < calls; i++) {
            text.append("private void at").append(i).append("() { at").append(i + 1).append("(); } ");
        }
        return text + "private void at" + calls + "() { }";
    }

    private static void seen(String rules, String members) {
        TreeSet<Integer> told = new TreeSet<>();
        for (String breach : Rules.breaches(String.format(CLASS, members))) {
            told.add(Integer.parseInt(breach.replaceAll("\\D.*", "")));
        }
        due.is(members, told, rules);
    }
}
