import java.io.IOException;
import java.lang.reflect.Constructor;
import java.lang.reflect.Field;
import java.lang.reflect.Member;
import java.lang.reflect.Method;
import java.lang.reflect.Modifier;
import java.nio.file.Files;
import java.nio.file.Path;
import java.util.Set;
import java.util.TreeSet;
import java.util.regex.Matcher;
import java.util.regex.Pattern;

/** The class's face, and the rules of LANGUAGE.md that can be seen. Runs in the project's folder. */
public final class FaceTest {
    private static final String I = " throws IllegalArgumentException";
    private static final String X = " throws IndexOutOfBoundsException";
    private static final String S = ", IllegalStateException";
    private static final String[] METHODS = {
        "int begin(int)" + I,
        "int addRound(int)" + I + S + ", UnsupportedOperationException",
        "int addShifted(int, int)" + I + S + ", UnsupportedOperationException",
        "int addMirrored(int)" + I + S + ", UnsupportedOperationException",
        "int addShape(int, int, int)" + I,
        "int rip(int)" + I + S,
        "int setYarn(int, int)" + I,
        "boolean setSpiral(boolean)",
        "int round(int, int)" + X + ", IllegalArgumentException",
        "int work(int, int)" + X,
        "int maker(int, int)" + X,
        "int parent(int, int)" + X,
        "int child(int, int)" + X,
        "int root(int, int)" + X,
        "int place(int, int)" + X,
        "int value(int)" + I,
        "int goal(int, int, int)" + I,
        "int stacks(int, int)" + I,
        "int roundsTo(int, int)" + I,
        "int nearestShape()",
        "double evenness(int)" + X,
        "int append(int)" + I + S,
        "int clearText()",
        "int judged()",
        "int carryOut()",
        "int undo() throws IllegalStateException",
        "long digest()",
    };
    private static final Checks c = new Checks("FaceTest");

    public static void main(String[] args) throws IOException {
        face();
        members();
        source(Files.readString(Path.of("src/main/java/CrochetRounds.java")));
        c.end();
    }

    private static String listed(Class<?>[] types) {
        StringBuilder list = new StringBuilder();
        for (Class<?> type : types) {
            list.append(list.length() == 0 ? "" : ", ").append(type.getSimpleName());
        }
        return list.toString();
    }

    private static void face() {
        Set<String> got = new TreeSet<>();
        for (Method m : CrochetRounds.class.getDeclaredMethods()) {
            if (Modifier.isPublic(m.getModifiers())) {
                String thrown = listed(m.getExceptionTypes());
                got.add(m.getReturnType().getSimpleName() + " " + m.getName() + "("
                    + listed(m.getParameterTypes()) + ")" + (thrown.isEmpty() ? "" : " throws " + thrown));
            }
        }
        c.due("the public methods", got, new TreeSet<>(Set.of(METHODS)));
        Constructor<?>[] made = CrochetRounds.class.getDeclaredConstructors();
        c.due("the constructors", made.length, 1);
        c.due("the constructor", Modifier.toString(made[0].getModifiers()) + listed(made[0].getParameterTypes()), "public");
        c.due("the class", Modifier.toString(CrochetRounds.class.getModifiers()), "public final");
    }

    private static void members() {
        Set<String> faceNames = new TreeSet<>();
        for (Method m : CrochetRounds.class.getDeclaredMethods()) {
            if (Modifier.isPublic(m.getModifiers())) {
                faceNames.add(m.getName());
            }
        }
        for (Method m : CrochetRounds.class.getDeclaredMethods()) {
            if (!Modifier.isPublic(m.getModifiers())) {
                isPrivate(m);
                c.isTrue(m.getName() + " is no name of the face", !faceNames.contains(m.getName()));
            }
            c.isTrue(m.getName() + " takes at most 7", m.getParameterCount() <= 7);
        }
        for (Field f : CrochetRounds.class.getDeclaredFields()) {
            if (!f.getName().equals("NONE")) {
                isPrivate(f);
            }
            c.isTrue(f.getName() + " is final", Modifier.isFinal(f.getModifiers()));
        }
        for (Class<?> inside : CrochetRounds.class.getDeclaredClasses()) {
            c.isTrue(inside + " is static and not public", Modifier.isStatic(inside.getModifiers())
                && !Modifier.isPublic(inside.getModifiers()) && !Modifier.isProtected(inside.getModifiers()));
            c.isTrue(inside + " has few fields", inside.getDeclaredFields().length <= 20);
        }
        c.isTrue("at most 12 classes", CrochetRounds.class.getDeclaredClasses().length < 12);
    }

    private static void isPrivate(Member member) {
        c.isTrue(member.getName() + " is private", Modifier.isPrivate(member.getModifiers()));
    }

    private static void source(String source) {
        String code = source.replaceAll("(?s)/\\*.*?\\*/", " ").replaceAll("//[^\n]*", " ");
        String[] forbidden = {
            "\\bpackage\\b", "\\bimport\\b", "->", "::", "\\btry\\b", "\\bcatch\\b", "\\bfinally\\b",
            "\\bsynchronized\\b", "\\bassert\\b", "\\brecord\\b", "Exact\\b", "\\bSystem\\b(?!\\.arraycopy)",
            "\\bThread\\b", "\\bRandom\\b", "\\bString\\.", "\\bMath\\.(?!min\\b|max\\b|abs\\b)",
            "\\bnull\\b\\s*\\)\\s*throw", "\\+\\s*\"", "\"\\s*\\+", "\\bvar\\b", "\\bwhile\\s*\\(\\s*true", "\\bhashCode\\b",
        };
        for (String pattern : forbidden) {
            c.isTrue("the file has no " + pattern, !Pattern.compile(pattern).matcher(code).find());
        }
        c.isTrue("the file is plain ASCII", source.chars().allMatch(sign -> sign < 128));
        Matcher made = Pattern.compile("throw (?!new [A-Za-z]+Exception\\(\"[^\"]*\"\\);)").matcher(code);
        c.isTrue("throws are written out", !made.find());
        methodsAreShort(code);
    }

    private static void methodsAreShort(String code) {
        int opened = 0;
        int line = 0;
        for (String text : code.split("\n")) {
            line++;
            boolean isHead = text.matches("\\s+[^=;]*\\)[^=;]*\\{\\s*") && !text.matches("\\s*(}|if|for|while|switch|else|do)\\b.*");
            if (isHead) {
                opened = line;
            }
            c.isTrue("line " + line + " is in a short method", line - opened <= 60 || !text.matches(" {8,}\\S.*") || opened == 0);
        }
        c.isTrue("there are methods", opened > 0);
    }
}
