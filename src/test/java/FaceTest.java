import java.lang.reflect.Field;
import java.lang.reflect.Method;
import java.lang.reflect.Modifier;
import java.nio.file.Files;
import java.nio.file.Path;
import java.util.Arrays;
import java.util.Set;
import java.util.TreeSet;
import java.util.regex.Matcher;
import java.util.regex.Pattern;

/** The public face, and those rules of LANGUAGE.md that can be read off the class and its file. */
public final class FaceTest {
    private static final Check check = new Check();
    private static final String[] FACE = {
        "int street(int,int,int,int)", "int ofHouse(int,int)", "int anger(int,int)", "int crate(int)",
        "int deal(int,int)", "int weeks(int)", "int gift(int)", "int season(int,int,int,int,int)",
        "int calm(int,int)", "int wonder(int)", "int otherwise(int)", "int halves(int)", "int reading(int,int)",
        "int back(int)", "int tempers(int)", "int kinds(int)", "int crates(int)", "long odds(int,int,int)",
        "int sheet(int,int,int)", "int lose(int)", "int put(int,int,int)", "long cell(int,int,int)",
        "int copy(int,int,int,int,int)", "int tell(int)", "int knock(int)", "int as(int,int)", "int trace()",
        "int fault()", "int many(int)"};

    public static void main(String[] args) throws Exception {
        constants();
        members();
        classesInside();
        source();
        check.end("FaceTest");
    }

    private static void constants() {
        check.due("UNKNOWN", LemonDeals.UNKNOWN, -1);
        check.due("OUTSIDE", LemonDeals.OUTSIDE, -2);
        check.due("STATE", LemonDeals.STATE, -3);
        check.due("FULL", LemonDeals.FULL, -4);
        check.due("NONE", LemonDeals.NONE, -9);
        check.due("LOST", LemonDeals.LOST, Long.MIN_VALUE);
    }

    private static void members() {
        Set<String> face = new TreeSet<>();
        for (Method m : LemonDeals.class.getDeclaredMethods()) {
            if (!Modifier.isPrivate(m.getModifiers())) {
                check.holds(m + " is public, of the object", m.getModifiers() == Modifier.PUBLIC);
                String types = Arrays.stream(m.getParameterTypes()).map(Class::getName)
                    .reduce((a, b) -> a + "," + b).orElse("");
                face.add(m.getReturnType().getName() + " " + m.getName() + "(" + types + ")");
            }
        }
        check.holds("the face is the document's: " + face, face.equals(new TreeSet<>(Arrays.asList(FACE))));
        check.holds("the class is public and final",
            LemonDeals.class.getModifiers() == (Modifier.PUBLIC | Modifier.FINAL));
        check.due("constructors", LemonDeals.class.getDeclaredConstructors().length, 1);
        check.due("public constructors", LemonDeals.class.getConstructors().length, 1);
        int constants = 0;
        for (Field f : LemonDeals.class.getDeclaredFields()) {
            boolean isPrivate = Modifier.isPrivate(f.getModifiers());
            check.holds(f + " is private or a public constant", isPrivate
                || f.getModifiers() == (Modifier.PUBLIC | Modifier.STATIC | Modifier.FINAL));
            check.holds(f + " is final, if static",
                !Modifier.isStatic(f.getModifiers()) || Modifier.isFinal(f.getModifiers()));
            constants += isPrivate ? 0 : 1;
        }
        check.due("public constants", constants, 6);
    }

    private static void classesInside() {
        Set<String> names = new TreeSet<>();
        for (String line : FACE) {
            names.add(line.substring(line.indexOf(' ') + 1, line.indexOf('(')));
        }
        privateNames(LemonDeals.class, names);
        for (Class<?> inside : LemonDeals.class.getDeclaredClasses()) {
            check.holds(inside + " is static", Modifier.isStatic(inside.getModifiers()));
            check.holds(inside + " isn't public", !Modifier.isPublic(inside.getModifiers()));
            privateNames(inside, names);
        }
    }

    private static void privateNames(Class<?> of, Set<String> publicNames) {
        for (Method m : of.getDeclaredMethods()) {
            if (Modifier.isPrivate(m.getModifiers())) {
                check.holds(m + " bears no public name", !publicNames.contains(m.getName()));
            }
            check.holds(m + " takes at most seven", m.getParameterCount() <= 7);
        }
    }

    private static void source() throws Exception {
        String file = Files.readString(Path.of("src/main/java/LemonDeals.java"));
        String code = file.replaceAll("(?s)/\\*.*?\\*/", "").replaceAll("//[^\n]*", "");
        String[] ruledOut = {"\\bthrow\\b", "\\btry\\b", "\\bcatch\\b", "\\bsynchronized\\b", "\\bassert\\b",
            "\\bpackage\\b", "\\bimport\\b", "->", "::", "Exact\\b", "\\bprotected\\b", "\\bSystem\\.(?!arraycopy)",
            "\\btoString\\b", "\\bhashCode\\b", "\\bequals\\b", "\\bThread\\b", "\\bstatic\\s*\\{"};
        for (String rule : ruledOut) {
            Matcher m = Pattern.compile(rule).matcher(code);
            check.holds("the file holds no " + rule, !m.find());
        }
        check.holds("the file holds ASCII alone", file.chars().allMatch(c -> c < 128));
        longestMethod(code);
    }

    private static void longestMethod(String code) {
        int begun = 0;
        String[] lines = code.split("\n");
        for (int i = 0; i < lines.length; i++) {
            if (lines[i].matches("\\s+(public|private)[^=;]*\\) \\{")) {
                begun = i;
            }
            if (lines[i].matches("( {4}| {8})\\}")) {
                check.holds("sixty lines at most, up to line " + i, i - begun < 60);
            }
        }
    }
}
