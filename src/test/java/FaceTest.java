import java.io.IOException;
import java.lang.reflect.Constructor;
import java.lang.reflect.Executable;
import java.lang.reflect.Field;
import java.lang.reflect.Method;
import java.lang.reflect.Modifier;
import java.nio.file.Files;
import java.nio.file.Path;
import java.util.ArrayList;
import java.util.Arrays;
import java.util.List;
import java.util.Set;
import java.util.TreeSet;
import java.util.regex.Matcher;
import java.util.regex.Pattern;

/** The document's face, and the rules of LANGUAGE.md that can be seen from outside or in the text. */
public final class FaceTest {
    private static final Due D = new Due();
    private static final String FACE = "sheet(III)I set(IIJ)J copy(IIIII)I drop(I)I trees(I)I tree(II)I level(II)I "
        + "hang(II)I table(IIII)I behind(III)I turn(III)I scale(III)I clear(I)I number(III)I kind(I)I is(II)I "
        + "as(II)I ask(II)I trace(I)I weight(II)I order(II)I share(III)I ride(IIII)I alike(III)I count(I)I status()I";

    public static void main(String[] args) throws IOException {
        constants();
        face();
        classesInside();
        text();
        D.end();
    }

    private static void holds(String what, boolean it) {
        D.due(what, it ? 1 : 0, 1);
    }

    private static void constants() {
        D.due("NONE", TreeSteps.NONE, -1000000);
        D.due("BAD", TreeSteps.BAD, -1000001);
        D.due("FULL", TreeSteps.FULL, -1000003);
    }

    private static String letter(Class<?> type) {
        return type == int.class ? "I" : type == long.class ? "J" : type.getName();
    }

    private static void face() {
        holds("public and final", Modifier.isPublic(TreeSteps.class.getModifiers())
                && Modifier.isFinal(TreeSteps.class.getModifiers()));
        Set<String> found = new TreeSet<>();
        for (Method m : TreeSteps.class.getDeclaredMethods()) {
            if (!Modifier.isPrivate(m.getModifiers())) {
                StringBuilder text = new StringBuilder(m.getName()).append('(');
                Arrays.stream(m.getParameterTypes()).forEach(t -> text.append(letter(t)));
                found.add(text.append(')').append(letter(m.getReturnType())).toString());
                holds(m + " is public, not static", Modifier.isPublic(m.getModifiers()) && !Modifier.isStatic(m.getModifiers()));
            }
        }
        holds("the face is " + found, found.equals(new TreeSet<>(Arrays.asList(FACE.split(" ")))));
        Constructor<?>[] made = TreeSteps.class.getDeclaredConstructors();
        holds("one constructor", made.length == 1 && Arrays.equals(made[0].getParameterTypes(), new Class<?>[] {int.class}));
        Set<String> fields = new TreeSet<>();
        for (Field f : TreeSteps.class.getDeclaredFields()) {
            if (!Modifier.isPrivate(f.getModifiers())) {
                fields.add(f.getName());
            }
        }
        holds("the open fields are " + fields, fields.equals(Set.of("NONE", "BAD", "FULL")));
    }

    private static void classesInside() {
        List<Class<?>> all = new ArrayList<>(Arrays.asList(TreeSteps.class.getDeclaredClasses()));
        for (Class<?> inside : all) {
            int m = inside.getModifiers();
            holds(inside + " is static, not public", Modifier.isStatic(m) && !Modifier.isPublic(m) && !Modifier.isProtected(m));
        }
        all.add(TreeSteps.class);
        holds("at most twelve classes", all.size() <= 12);
        for (Class<?> c : all) {
            List<Executable> code = new ArrayList<>(Arrays.asList(c.getDeclaredConstructors()));
            for (Method m : c.getDeclaredMethods()) {
                code.add(m);
                boolean faceName = (" " + FACE).contains(" " + m.getName() + "(");
                holds(m + " does not bear a public name", c == TreeSteps.class && Modifier.isPublic(m.getModifiers()) || !faceName);
            }
            for (Executable e : code) {
                holds(e + " has at most seven parameters", e.getParameterCount() <= 7);
            }
            int own = 0;
            for (Field f : c.getDeclaredFields()) {
                boolean fixed = Modifier.isStatic(f.getModifiers());
                holds(f + " is final, if static", !fixed || Modifier.isFinal(f.getModifiers()));
                own += fixed ? 0 : 1;
            }
            holds(c + " has at most twenty fields", own <= 20);
        }
    }

    private static void text() throws IOException {
        String whole = Files.readString(Path.of("src/main/java/TreeSteps.java"));
        holds("plain signs alone", whole.chars().allMatch(sign -> sign == '\n' || sign >= 32 && sign < 127));
        String bare = whole.replaceAll("(?s)/\\*.*?\\*/", "").replaceAll("//[^\n]*", "");
        String[] ruledOut = {"\\bthrow\\b", "\\bthrows\\b", "\\btry\\b", "\\bcatch\\b", "\\bsynchronized\\b",
            "\\bassert\\b", "->", "::", "\\bimport\\b", "\\bpackage\\b", "\\bstatic\\s*\\{", "@", "\\bprotected\\b",
            "Exact\\b", "\\bhashCode\\b", "\\btoString\\b", "\\bequals\\b", "\\bvar\\b", "\\bdouble\\b", "\\bfloat\\b"};
        for (String ruled : ruledOut) {
            Matcher found = Pattern.compile(ruled).matcher(bare);
            holds("no " + ruled, !found.find());
        }
        Matcher library = Pattern.compile("\\b(System|Math|Arrays|Integer|Long)\\.(\\w+)").matcher(bare);
        Set<String> known = Set.of("System.arraycopy", "Math.floorMod", "Math.min", "Math.max");
        while (library.find()) {
            holds(library.group() + " is in the library", known.contains(library.group()));
        }
        methodLengths(bare);
    }

    private static void methodLengths(String bare) {
        int start = -1;
        int line = 0;
        for (String text : bare.split("\n")) {
            line++;
            if (text.matches(" {4}( {4})?[a-zA-Z].*\\) \\{") && !text.contains(" class ")) {
                start = line;
            } else if (text.matches(" {4}( {4})?\\}") && start >= 0) {
                holds("the method at line " + start + " is short", line - start <= 60);
                start = -1;
            }
        }
    }
}
