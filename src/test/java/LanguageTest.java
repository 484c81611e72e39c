import java.io.IOException;
import java.lang.reflect.Constructor;
import java.lang.reflect.Field;
import java.lang.reflect.Method;
import java.lang.reflect.Modifier;
import java.nio.file.Files;
import java.nio.file.Path;
import java.util.Arrays;
import java.util.Set;
import java.util.TreeSet;
import java.util.regex.Pattern;

/** Rules of LANGUAGE.md that can be seen from outside or by looking for words in the file. */
public final class LanguageTest {
    private static final Checks CHECKS = new Checks("LanguageTest");

    private static final String[] FACE = {
        "int cabinet(int)", "int one(int,int)", "int office(int,int)", "int shows(int,int)", "int comes(int,int)",
        "int holds(int,int)", "int empties(int)", "int wears(int,int)", "int knows(int,int)", "int marries(int,int)",
        "int days(int)", "int heldThen(int,int)", "int knownThen(int,int)", "int then(int,int)", "int falls(int)",
        "int empty(int)", "int lasts(int,int)", "int bestCostume(int,int,int)", "int casts(int)", "int send(int)",
        "int change(int)", "int over(int)", "int whatIs(int,int,int)", "int whoHeld(int,int)",
        "int two(int,int,int)", "long scandals(int,int,int,int)", "long mean(int)", "int forged(int)",
        "int judge(int)", "int years(int,int,int)", "int image()", "int restore()", "int count(int)",
        "int keep(int,int,int,int)", "int row(int,int,int)", "int put(int,int,int)", "long element(int,int)",
        "int copy(int,int,int,int,int)", "int cost(int)", "int toss(int)"};

    // Words that the rules leave no room for; finally, lambdas and the like.
    private static final String[] FORBIDDEN = {"->", "::", "\\bimport\\b", "\\bpackage\\b", "\\bfinally\\b",
        "\\bassert\\b", "\\bsynchronized\\b", "Exact\\b", "\\bSystem\\.(?!arraycopy\\b)", "getMessage",
        "\\bcatch \\((RuntimeException|Exception|Throwable|NullPointer|IndexOut|ArrayIndex|Arithmetic|ClassCast|"
            + "NegativeArray|ArrayStore)", "\\bprotected\\b", "\\bstatic \\{", "\\bdouble\\b", "\\bfloat\\b"};

    public static void main(String[] args) throws IOException {
        face();
        members();
        words(Files.readString(Path.of("src/main/java/OnlyInDisguise.java")));
        CHECKS.end();
    }

    private static String told(Method m) {
        StringBuilder b = new StringBuilder(m.getReturnType().getName()).append(' ').append(m.getName()).append('(');
        Class<?>[] types = m.getParameterTypes();
        for (int i = 0; i < types.length; i++) {
            b.append(i == 0 ? "" : ",").append(types[i].getName());
        }
        return b.append(')').toString();
    }

    private static void face() {
        Set<String> want = new TreeSet<>(Arrays.asList(FACE));
        Set<String> publicNames = new TreeSet<>();
        Set<String> got = new TreeSet<>();
        for (Method m : OnlyInDisguise.class.getDeclaredMethods()) {
            if (Modifier.isPublic(m.getModifiers())) {
                got.add(told(m));
                publicNames.add(m.getName());
            }
        }
        CHECKS.due("the face is " + got, got.equals(want) ? 1 : 0, 1);
        for (Method m : OnlyInDisguise.class.getDeclaredMethods()) {
            boolean twice = !Modifier.isPublic(m.getModifiers()) && publicNames.contains(m.getName());
            CHECKS.due("a private method with a public name: " + m.getName(), twice ? 1 : 0, 0);
        }
        for (Class<?> inside : OnlyInDisguise.class.getDeclaredClasses()) {
            CHECKS.due(inside + " is static", Modifier.isStatic(inside.getModifiers()) ? 1 : 0, 1);
            for (Method m : inside.getDeclaredMethods()) {
                CHECKS.due("a public name in " + m, publicNames.contains(m.getName()) ? 1 : 0, 0);
                CHECKS.due("parameters of " + m, m.getParameterCount() <= 7 ? 1 : 0, 1);
            }
        }
    }

    private static void members() {
        CHECKS.due("a final class", Modifier.isFinal(OnlyInDisguise.class.getModifiers()) ? 1 : 0, 1);
        Constructor<?>[] made = OnlyInDisguise.class.getDeclaredConstructors();
        CHECKS.due("constructors", made.length, 1);
        for (Method m : OnlyInDisguise.class.getDeclaredMethods()) {
            int how = m.getModifiers();
            CHECKS.due(m + " is public or private", Modifier.isPublic(how) || Modifier.isPrivate(how) ? 1 : 0, 1);
        }
        for (Field f : OnlyInDisguise.class.getDeclaredFields()) {
            int how = f.getModifiers();
            CHECKS.due(f + " is private", Modifier.isPrivate(how) ? 1 : 0, 1);
            CHECKS.due(f + ", if static, is final", !Modifier.isStatic(how) || Modifier.isFinal(how) ? 1 : 0, 1);
        }
    }

    private static void words(String source) {
        for (String word : FORBIDDEN) {
            CHECKS.due("the file has " + word, Pattern.compile(word).matcher(source).find() ? 1 : 0, 0);
        }
        CHECKS.due("signs are plain", source.chars().allMatch(c -> c == '\n' || c >= 32 && c < 127) ? 1 : 0, 1);
    }
}
