import java.lang.reflect.Method;
import java.lang.reflect.Modifier;
import java.nio.file.Files;
import java.nio.file.Path;
import java.util.ArrayList;
import java.util.List;
import java.util.TreeSet;
import java.util.regex.Matcher;
import java.util.regex.Pattern;

/** The public face of the document, and those rules of LANGUAGE.md that a text can be searched for. */
public final class FaceTest {
    private static final Check check = new Check("FaceTest");
    private static final String[] FACE = {
        "int type(int,int)", "int wipe(int)", "int undo(int)", "int fault(int)", "int rower(int,int)",
        "int call(int,int)", "int river(int,int)", "int event(int,int,int)", "int back()", "int read(int)",
        "int at(int,int)", "int pulls(int,int)", "int done(int,int)", "int there()", "int grounded(int)",
        "int stray(int)", "int best()", "int idle()", "int swap(int)", "int steer(int,int)",
        "int stroke(int,int)", "int spare(int)", "int seen(int,int)", "int forget()", "int never()",
        "int was(int,int)", "int ask(int)", "long chance(int,int,int)", "int years(int,int,int)",
        "int sheet(int,int,int)", "int lose(int)", "int put(int,int,int,int)", "int get(int,int,int)",
        "int copy(int,int,int,int,int)", "int write(int,int)", "int count(int)", "long digest()"};
    private static final String[] RULED_OUT = {
        "\\bthrow\\b", "\\btry\\b", "\\bcatch\\b", "\\bsynchronized\\b", "\\bassert\\b", "->", "::",
        "\\bThread\\b", "\\bSystem\\.(?!arraycopy)", "\\bRandom\\b", "\\bString\\.format\\b", "Exact\\(",
        "static\\s*\\{", "\\bprotected\\b", "^package\\b", "import (?!java\\.util\\.Arrays;)"};

    public static void main(String[] args) throws Exception {
        face();
        constants();
        source(Files.readString(Path.of("src/main/java/RowingEight.java")));
        check.end();
    }

    private static void face() {
        TreeSet<String> due = new TreeSet<>(List.of(FACE));
        TreeSet<String> names = new TreeSet<>();
        TreeSet<String> got = new TreeSet<>();
        for (Method m : RowingEight.class.getDeclaredMethods()) {
            if (Modifier.isPublic(m.getModifiers())) {
                got.add(signature(m));
                names.add(m.getName());
            }
        }
        check.holds("the public methods are those of the document: " + got, got.equals(due));
        for (Method m : RowingEight.class.getDeclaredMethods()) {
            int how = m.getModifiers();
            check.holds(m.getName() + " is public or private", Modifier.isPublic(how) || Modifier.isPrivate(how));
            check.holds(m.getName() + " is no private namesake", Modifier.isPublic(how) || !names.contains(m.getName()));
        }
        for (Class<?> inside : RowingEight.class.getDeclaredClasses()) {
            check.holds(inside.getName() + " is static", Modifier.isStatic(inside.getModifiers()));
            for (Method m : inside.getDeclaredMethods()) {
                check.holds(m.getName() + " is no namesake", !names.contains(m.getName()));
            }
        }
        check.holds("the class is public and final",
            Modifier.isPublic(RowingEight.class.getModifiers()) && Modifier.isFinal(RowingEight.class.getModifiers()));
        check.due("constructors", RowingEight.class.getDeclaredConstructors().length, 1);
    }

    private static String signature(Method m) {
        List<String> types = new ArrayList<>();
        for (Class<?> type : m.getParameterTypes()) types.add(type.getName());
        return m.getReturnType().getName() + " " + m.getName() + "(" + String.join(",", types) + ")";
    }

    private static void constants() {
        check.due("NONE", RowingEight.NONE, -1);
        check.due("BAD", RowingEight.BAD, -2);
        check.due("NOT", RowingEight.NOT, -3);
        check.due("FULL", RowingEight.FULL, -4);
        check.due("public fields", RowingEight.class.getFields().length, 4);
    }

    private static void source(String source) {
        String code = source.replaceAll("(?s)/\\*.*?\\*/", "").replaceAll("//[^\n]*", "");
        for (String rule : RULED_OUT) {
            Matcher m = Pattern.compile(rule, Pattern.MULTILINE).matcher(code);
            check.holds("the source is without " + rule, !m.find());
        }
        Matcher statics = Pattern.compile("\\bstatic (?!final )[^({]*[;=]").matcher(code);
        check.holds("static fields are final", !statics.find());
    }
}
