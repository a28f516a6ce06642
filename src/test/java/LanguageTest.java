import java.io.IOException;
import java.lang.reflect.Constructor;
import java.lang.reflect.Field;
import java.lang.reflect.Method;
import java.lang.reflect.Modifier;
import java.nio.file.Files;
import java.nio.file.Path;
import java.util.Arrays;
import java.util.Set;
import java.util.TreeSet;
import java.util.regex.Matcher;
import java.util.regex.Pattern;

/** The document's face by reflection, and what LANGUAGE.md forbids as far as it can be seen in the text. */
public final class LanguageTest {
    private static final Check c = new Check("LanguageTest");
    private static final String[] FACE = {"kind(4)", "plane(1)", "need(3)", "days(1)", "fly(3)", "ofPlane(2)",
        "grounded(2)", "part(5)", "move(2)", "swap(2)", "repair(2)", "ofPart(2)", "left(3)", "least(2)", "stay(3)",
        "paper(3)", "past(6)", "feed(2)", "law(1)", "lost(3)", "order(2)", "done(2)", "contract(3)", "lacks(4)",
        "costs(4)", "giveBack(1)", "best(2)", "bestCost(0)", "reserve(2)", "claim(2)", "half(2)", "insure(1)",
        "link(3)", "net(3)", "count(1)"};

    public static void main(String[] args) throws IOException {
        constants();
        face();
        classesInside();
        text(Files.readString(Path.of("src/main/java/PlanesBack.java")));
        c.end();
    }

    private static void constants() {
        c.due("BAD", PlanesBack.BAD, -1);
        c.due("NOT", PlanesBack.NOT, -2);
        c.due("FULL", PlanesBack.FULL, -3);
        c.due("BIG", PlanesBack.BIG, -4);
        c.due("VOID", PlanesBack.VOID, -2000000000);
    }

    private static void face() {
        Class<PlanesBack> face = PlanesBack.class;
        c.is("public and final", Modifier.isPublic(face.getModifiers()) && Modifier.isFinal(face.getModifiers()));
        Set<String> shown = new TreeSet<>();
        for (Method m : face.getDeclaredMethods()) {
            if (!Modifier.isPrivate(m.getModifiers())) {
                c.is(m + " is public", Modifier.isPublic(m.getModifiers()) && !Modifier.isStatic(m.getModifiers()));
                c.is(m + " answers an int", m.getReturnType() == int.class);
                shown.add(m.getName() + "(" + m.getParameterCount() + ")");
            }
        }
        c.is("the methods of the document and no others", shown.equals(new TreeSet<>(Arrays.asList(FACE))));
        Constructor<?>[] made = face.getDeclaredConstructors();
        c.is("one constructor", made.length == 1 && made[0].getParameterCount() == 0
            && Modifier.isPublic(made[0].getModifiers()));
        Set<String> constants = new TreeSet<>();
        for (Field f : face.getDeclaredFields()) {
            if (!Modifier.isPrivate(f.getModifiers())) {
                constants.add(f.getName());
            }
        }
        c.is("the constants", constants.equals(Set.of("BAD", "NOT", "FULL", "BIG", "VOID")));
    }

    private static void classesInside() {
        Set<String> publicNames = new TreeSet<>();
        for (String method : FACE) {
            publicNames.add(method.substring(0, method.indexOf('(')));
        }
        c.is("some twelve classes", PlanesBack.class.getDeclaredClasses().length <= 11);
        for (Class<?> inside : PlanesBack.class.getDeclaredClasses()) {
            c.is(inside + " is static", Modifier.isStatic(inside.getModifiers()));
            c.is(inside + " is not shown", !Modifier.isPublic(inside.getModifiers())
                && !Modifier.isProtected(inside.getModifiers()));
            c.is(inside + " has no classes inside", inside.getDeclaredClasses().length == 0);
            for (Method m : inside.getDeclaredMethods()) {
                c.is(m + " bears no public name", !publicNames.contains(m.getName()));
                c.is(m + " takes at most seven", m.getParameterCount() <= 7);
            }
            long fields = Arrays.stream(inside.getDeclaredFields())
                .filter(f -> !Modifier.isStatic(f.getModifiers())).count();
            c.is(inside + " has some twenty fields", fields <= 20);
            for (Field f : inside.getDeclaredFields()) {
                c.is(f + " is no static state", !Modifier.isStatic(f.getModifiers())
                    || Modifier.isFinal(f.getModifiers()));
            }
        }
    }

    private static void text(String source) {
        String code = source.replaceAll("(?s)/\\*.*?\\*/", "").replaceAll("//[^\n]*", "")
            .replaceAll("\"[^\"\n]*\"", "\"\"").replaceAll("'[^'\n]+'", "' '");
        for (String word : new String[] {"throw", "throws", "try", "catch", "synchronized", "assert", "package",
            "protected", "default ->", "yield", "native", "volatile", "transient", "System.out", "double", "float"}) {
            c.is("no " + word, !Pattern.compile("\\b" + Pattern.quote(word) + "\\b").matcher(code).find());
        }
        c.is("no lambda", !code.contains("->"));
        c.is("no method reference", !code.contains("::"));
        c.is("no static block", !Pattern.compile("static\\s*\\{").matcher(code).find());
        c.is("no import", !Pattern.compile("\\bimport\\b").matcher(code).find());
        c.is("signs 1 to 127", source.chars().allMatch(sign -> sign >= 1 && sign <= 127));
        methodsAreShort(code);
    }

    private static void methodsAreShort(String code) {
        Matcher head = Pattern.compile("\n( {4}| {8})(?:\\w+ )*\\w+\\([^;{]*\\) \\{\n").matcher(code);
        int found = 0;
        while (head.find()) {
            int end = code.indexOf("\n" + head.group(1) + "}", head.end() - 1);
            long lines = code.substring(head.end(), Math.max(head.end(), end)).lines().count();
            c.is("short: " + head.group().trim(), lines <= 60);
            found++;
        }
        c.is("methods were found", found > 100);
    }
}
