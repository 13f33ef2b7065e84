import java.lang.reflect.Constructor;
import java.lang.reflect.Field;
import java.lang.reflect.Method;
import java.lang.reflect.Modifier;
import java.nio.file.Files;
import java.nio.file.Path;
import java.util.Set;
import java.util.TreeSet;
import java.util.regex.Matcher;
import java.util.regex.Pattern;

/** The document's face and what can be seen from the outside of the rules in ../shared/LANGUAGE.md. */
public final class RulesTest {
    private static final Checks CHECKS = new Checks();
    private static final String FACE = "int adds(int,int,int,int)|int own(int,int,int,int)|int drops(int)|int veers(int,int,int)"
        + "|int sets(int,int)|int steps(int)|int looks()|int obeys()|int of(int,int)|long closest(int,int,int)|int risk(int,int)"
        + "|int sector(int,int)|int table(int,int)|int duty(int)|int worst()|int clear(int,int,int)|int blocked(int)|int advice(int)"
        + "|int count(int)|int type(int)|int wipes()|int does()|int back()|int told(int)|long digest()";

    public static void main(String[] args) throws Exception {
        face();
        names();
        fields(PastAndClear.class);
        for (Class<?> inside : PastAndClear.class.getDeclaredClasses()) fields(inside);
        words(Files.readString(Path.of("src/main/java/PastAndClear.java")));
        CHECKS.end();
    }

    private static void face() {
        Set<String> want = new TreeSet<>(Set.of(FACE.split("\\|")));
        Set<String> got = new TreeSet<>();
        for (Method m : PastAndClear.class.getDeclaredMethods()) {
            if (Modifier.isPrivate(m.getModifiers())) continue;
            StringBuilder name = new StringBuilder(m.getReturnType() + " " + m.getName() + "(");
            for (Class<?> p : m.getParameterTypes()) name.append(name.charAt(name.length() - 1) == '(' ? "" : ",").append(p);
            got.add(name.append(")").toString());
            CHECKS.dueTrue(m.getName() + " is public, not static", Modifier.isPublic(m.getModifiers()) && !Modifier.isStatic(m.getModifiers()));
        }
        CHECKS.dueTrue("methods are " + got + ", due are " + want, got.equals(want));
        Constructor<?>[] made = PastAndClear.class.getDeclaredConstructors();
        CHECKS.dueTrue("one public constructor without parameters",
            made.length == 1 && Modifier.isPublic(made[0].getModifiers()) && made[0].getParameterCount() == 0);
        CHECKS.dueTrue("public and final", Modifier.isPublic(PastAndClear.class.getModifiers()) && Modifier.isFinal(PastAndClear.class.getModifiers()));
        CHECKS.due("NONE", PastAndClear.NONE, -10001);
        CHECKS.due("BAD", PastAndClear.BAD, -10002);
        CHECKS.due("NO", PastAndClear.NO, -10003);
        CHECKS.due("FULL", PastAndClear.FULL, -10004);
        Set<String> constants = new TreeSet<>();
        for (Field f : PastAndClear.class.getDeclaredFields()) if (!Modifier.isPrivate(f.getModifiers())) constants.add(f.getName());
        CHECKS.dueTrue("constants are " + constants, constants.equals(Set.of("NONE", "BAD", "NO", "FULL")));
    }

    private static void names() {
        Set<String> open = new TreeSet<>();
        for (Method m : PastAndClear.class.getDeclaredMethods()) if (Modifier.isPublic(m.getModifiers())) open.add(m.getName());
        for (Method m : PastAndClear.class.getDeclaredMethods()) {
            CHECKS.dueTrue("private " + m.getName() + " has a name of its own", Modifier.isPublic(m.getModifiers()) || !open.contains(m.getName()));
        }
        for (Class<?> inside : PastAndClear.class.getDeclaredClasses()) {
            CHECKS.dueTrue(inside + " is static", Modifier.isStatic(inside.getModifiers()));
            for (Method m : inside.getDeclaredMethods()) {
                CHECKS.dueTrue(inside + "." + m.getName() + " has a name of its own", !open.contains(m.getName()));
                CHECKS.dueTrue(m.getName() + " takes seven at most", m.getParameterCount() <= 7);
            }
        }
    }

    private static void fields(Class<?> c) {
        int fields = 0;
        for (Field f : c.getDeclaredFields()) {
            if (!Modifier.isStatic(f.getModifiers())) fields++;
            else CHECKS.dueTrue(c + "." + f.getName() + " is final", Modifier.isFinal(f.getModifiers()));
        }
        CHECKS.dueTrue(c + " has twenty fields at most", fields <= 20);
    }

    private static void words(String source) {
        String code = source.replaceAll("(?s)/\\*.*?\\*/", "").replaceAll("//[^\n]*", "");
        String[] ruledOut = {"\\bthrow\\b", "\\btry\\b", "\\bcatch\\b", "\\bsynchronized\\b", "\\bassert\\b", "\\bimport\\b", "\\bpackage\\b",
            "->", "::", "\\bThread\\b", "\\bRandom\\b", "Exact\\b", "\\bcurrentTimeMillis\\b", "\\bnanoTime\\b", "\\bstatic\\s*\\{"};
        for (String word : ruledOut) CHECKS.dueTrue("no " + word, !Pattern.compile(word).matcher(code).find());
        // Rows are made in constructors alone, so that calls take no room.
        Matcher made = Pattern.compile("(?m)^.*\\bnew\\b.*$").matcher(code);
        while (made.find()) {
            String ahead = code.substring(0, made.start());
            String head = "";
            Matcher heads = Pattern.compile("(?m)^ {4,8}[A-Za-z][^;={}]*\\{$").matcher(ahead);
            while (heads.find()) head = heads.group().trim();
            CHECKS.dueTrue("made in a constructor, not in '" + head + "'", head.matches("(public )?(PastAndClear|Fleet|Approach|History|Script)\\(\\) \\{"));
        }
    }
}
