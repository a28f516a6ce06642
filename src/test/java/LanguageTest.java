import com.sun.source.tree.ClassTree;
import com.sun.source.tree.MethodTree;
import com.sun.source.tree.Tree;
import com.sun.source.tree.VariableTree;
import com.sun.source.util.JavacTask;
import java.io.IOException;
import java.lang.reflect.Constructor;
import java.lang.reflect.Field;
import java.lang.reflect.Member;
import java.lang.reflect.Method;
import java.lang.reflect.Modifier;
import java.nio.file.Files;
import java.nio.file.Path;
import java.util.ArrayList;
import java.util.Collections;
import java.util.List;
import java.util.Set;
import java.util.TreeSet;
import javax.tools.ToolProvider;

/** The class has the document's face and nothing more to show, and keeps to LANGUAGE.md. */
public final class LanguageTest {
    private static final Check c = new Check("LanguageTest");

    public static void main(String[] args) throws IOException, ReflectiveOperationException {
        String source = Files.readString(Path.of("src/main/java/PlanesBack.java"));
        constants();
        Document document = new Document();
        if (document.isHere()) {
            face(source, document.face());
        }
        nothingMoreIsShown();
        rules(source);
        brokenRulesAreSeen(source);
        c.end();
    }

    private static void constants() {
        c.due("BAD", PlanesBack.BAD, -1);
        c.due("NOT", PlanesBack.NOT, -2);
        c.due("FULL", PlanesBack.FULL, -3);
        c.due("BIG", PlanesBack.BIG, -4);
        c.due("VOID", PlanesBack.VOID, -2000000000);
    }

    /** What both show, as they write it: modifiers, types, names of methods and of what they take. */
    private static void face(String source, String document) throws IOException {
        List<String> due = shownBy(document), shown = shownBy(source);
        c.due("what the document's face has", due.size(), 6 + Document.PROMISES);
        for (String member : due) {
            c.is("the class has " + member, shown.contains(member));
        }
        for (String member : shown) {
            c.is("the document has " + member, due.contains(member));
        }
    }

    private static List<String> shownBy(String text) throws IOException {
        JavacTask task = (JavacTask) ToolProvider.getSystemJavaCompiler().getTask(null, null, problem -> { }, null,
            null, List.of(new Rules.Text(text)));
        ClassTree face = (ClassTree) task.parse().iterator().next().getTypeDecls().get(0);
        List<String> all = new ArrayList<>(List.of(face.getModifiers() + " " + face.getSimpleName()));
        for (Tree member : face.getMembers()) {
            if (member instanceof MethodTree m && !isPrivate(m.getModifiers().getFlags())) {
                all.add(m.getModifiers() + " " + m.getReturnType() + " " + m.getName() + m.getParameters());
            } else if (member instanceof VariableTree v && !isPrivate(v.getModifiers().getFlags())) {
                all.add("" + v);
            } else if (member instanceof ClassTree inside && !isPrivate(inside.getModifiers().getFlags())) {
                all.add("class " + inside.getSimpleName());
            }
        }
        return all;
    }

    private static boolean isPrivate(Set<javax.lang.model.element.Modifier> flags) {
        return flags.contains(javax.lang.model.element.Modifier.PRIVATE);
    }

    /** Also by what the machine sees of the class as it was compiled. */
    private static void nothingMoreIsShown() {
        Set<String> shown = new TreeSet<>();
        List<Member> members = new ArrayList<>();
        Collections.addAll(members, PlanesBack.class.getDeclaredMethods());
        Collections.addAll(members, PlanesBack.class.getDeclaredFields());
        Collections.addAll(members, PlanesBack.class.getDeclaredConstructors());
        for (Member member : members) {
            if (!Modifier.isPrivate(member.getModifiers())) {
                c.is(member + " is public", Modifier.isPublic(member.getModifiers()));
                shown.add(member.getName());
            }
            if (member instanceof Method m && Modifier.isPublic(m.getModifiers())) {
                c.is(m + " takes and answers ints", m.getReturnType() == int.class
                    && !Modifier.isStatic(m.getModifiers())
                    && List.of(m.getParameterTypes()).stream().allMatch(type -> type == int.class));
            }
            if (member instanceof Constructor<?> made) {
                c.due("what the constructor takes", made.getParameterCount(), 0);
            }
            if (member instanceof Field f && Modifier.isPublic(f.getModifiers())) {
                c.is(f + " is a constant", Modifier.isStatic(f.getModifiers()) && Modifier.isFinal(f.getModifiers()));
            }
        }
        c.due("names that are shown", shown.size(), 5 + Document.PROMISES);
        c.due("classes that are shown", PlanesBack.class.getClasses().length, 0);
    }

    private static void rules(String source) throws IOException {
        List<String> offences = Rules.offences(source);
        c.is("the rules are kept: " + offences, offences.isEmpty());
    }

    /** The same source with one thing more that a rule forbids: the rule must be named. */
    private static void brokenRulesAreSeen(String source) throws IOException {
        String[][] broken = {
            {"1", "int shown;"}, {"1", "protected int shown;"}, {"1", "public int shown;"}, {"1", "void shown() { }"},
            {"1", "private int fly(long n) { return 0; }"}, {"1", "public static class A { }"},
            {"1", "private static class A { public int n() { return 0; } }"},
            {"1", "private static class A { int fly() { return 0; } }"},
            {"2", "private class A { }"}, {"2", "private void a() { class A { } }"},
            {"2", "private Runnable a() { return () -> { }; }"},
            {"2", "private Runnable a() { return this::bestCost; }"},
            {"2", "private static class A { } private A a() { return new A() { }; }"},
            {"3", "private Object a;"},
            {"3", "private int[][][] a;"},
            {"3", "private java.util.Map<A, A> a; static class A { }"},
            {"3", "private static class A { } private A[][] a;"}, {"3", "private Integer a;"},
            {"3", "private java.util.List<String> a;"}, {"3", "private String[] a;"},
            {"4", "private int a() { return Math.addExact(1, 2); }"},
            {"4", "private long a() { return System.nanoTime(); }"},
            {"4", "private int a() { return (int) Math.random(); }"},
            {"4", "private boolean a() { return \"\".isBlank(); }"},
            {"4", "private int a() { return \"\".hashCode(); }"}, {"4", "private int a() { return hashCode(); }"},
            {"4", "private String a = \"\\u00e9\";"}, {"4", "private void a() { System.out.println(); }"},
            {"5", "private static int a;"}, {"5", "static { }"}, {"5", "private static final int[] A = new int[3];"},
            {"5", "private static class A { } private static final A B = new A();"},
            {"6", "private void a() { throw new IllegalArgumentException(); }"},
            {"6", "private void a() { try { bestCost(); } finally { bestCost(); } }"},
            {"6", "private void a() { synchronized (this) { bestCost(); } }"},
            {"6", "private void a() { assert today > 0; }"},
            {"6", "private boolean a(String a, String b) { return a == b; }"},
            {"6", "private static class A { public String toString() { return null; } }"},
            {"6", "private static class A { } private static class B extends A { } private B a(A a) { return (B) a; }"},
            {"6", "private void a() throws RuntimeException { }"}, {"6", "private synchronized void a() { }"},
            {"7", "private int a(int b) { return 1 / b; }"}, {"7", "private int a(int b) { return 1 % b; }"},
            {"7", "private int a(int b) { b /= b; return b; }"},
            {"7", "private int a(int b) { return b > 0 ? 1 / today : 0; }"},
            {"7", "private int a() { return 1 / 0; }"},
            {"8", "private static int a(int n) { return n > 0 ? a(n - 1) : 0; }"},
            {"8", "private void a() { b(); } private void b() { a(); }"},
            {"9", "private void a() { while (true) { } }"}, {"9", "private void a() { for (;;) { } }"},
            {"9", "private void a() { while (bestCost() == 0) { } }"},
            {"9", "private void a() { do { } while (today != 0); }"},
            {"9", "private void a() { while (today < 3 || paid > 0) { } }"},
            {"10", "private String a(String b) { return b + 1; }"}, {"10", "private void a(String b) { b += b; }"},
            {"10", "private void a(String b) { switch (b) { default: } }"},
            {"11", "private void a(int a, int b, int c, int d, int e, int f, int g, int h) { }"},
            {"11", "private void a() {\n" + "today++;\n".repeat(60) + "}"},
            {"11", "private static class A { }"}, {"11", "private int a, b, c, d, e, f, g;"},
            {"11", "private void a() { best(0, 0); } public void b() { c(); } private void c() { a(); }"},
            {"12", "private int[] a() { return new int[2]; }"},
            {"12", "private void a(java.util.List<Integer> b) { for (int n : b) { } }"}};
        int end = source.lastIndexOf('}');
        for (String[] one : broken) {
            List<String> offences = Rules.offences(source.substring(0, end) + one[1] + "}");
            c.is("rule " + one[0] + " is broken by " + one[1] + ", seen: " + offences,
                offences.stream().anyMatch(offence -> offence.startsWith(one[0] + " ")));
        }
        c.is("no Java is seen", !Rules.offences(source.substring(0, end)).isEmpty());
    }
}
