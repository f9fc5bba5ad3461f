import java.io.IOException;
import java.lang.reflect.InvocationTargetException;
import java.lang.reflect.Method;
import java.lang.reflect.Modifier;
import java.nio.file.Files;
import java.nio.file.Path;
import java.util.regex.Matcher;
import java.util.regex.Pattern;

/** The calls that README.md shows, in their order on one piece, with the answers that it tells. */
public final class ReadmeTest {
    private static final Pattern CALL = Pattern.compile("piece\\.(\\w+)\\((.*)\\); +// (throws \\w+|[^ :]+).*");
    private static final Checks c = new Checks("ReadmeTest");

    public static void main(String[] args) throws IOException {
        CrochetRounds piece = new CrochetRounds();
        String readme = Files.readString(Path.of("README.md"));
        for (String line : readme.split("\n")) {
            Matcher call = CALL.matcher(line);
            c.due("a call with its answer: " + line, call.matches(), line.startsWith("piece."));
            if (call.matches()) {
                c.due(line, answer(piece, call.group(1), call.group(2)), call.group(3));
            }
        }
        for (Method m : CrochetRounds.class.getDeclaredMethods()) {
            boolean isPublic = Modifier.isPublic(m.getModifiers());
            c.isTrue("README.md shows " + m.getName(), !isPublic || readme.contains("piece." + m.getName() + "("));
        }
        c.end();
    }

    private static String answer(CrochetRounds piece, String name, String told) {
        String[] words = told.isEmpty() ? new String[0] : told.split(", ");
        Object[] arguments = new Object[words.length];
        for (int i = 0; i < words.length; i++) {
            arguments[i] = argument(words[i]);
        }
        for (Method m : CrochetRounds.class.getMethods()) {
            if (m.getName().equals(name) && m.getParameterCount() == arguments.length) {
                return answer(piece, m, arguments);
            }
        }
        return "no such method";
    }

    private static Object argument(String word) {
        if (word.startsWith("'")) {
            return (int) word.charAt(1);
        }
        return word.equals("true") || word.equals("false") ? (Object) Boolean.valueOf(word) : Integer.valueOf(word);
    }

    private static String answer(CrochetRounds piece, Method m, Object[] arguments) {
        try {
            return String.valueOf(m.invoke(piece, arguments));
        } catch (InvocationTargetException e) {
            return "throws " + e.getCause().getClass().getSimpleName();
        } catch (IllegalAccessException e) {
            return "not public";
        }
    }
}
