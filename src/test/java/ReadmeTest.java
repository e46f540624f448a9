import java.io.IOException;
import java.lang.reflect.InvocationTargetException;
import java.lang.reflect.Method;
import java.lang.reflect.Modifier;
import java.nio.file.Files;
import java.nio.file.Path;
import java.util.regex.Matcher;
import java.util.regex.Pattern;

/** Makes the calls of the example in README.md and compares the answers that stand there. */
public final class ReadmeTest {

    private static final Checks CHECKS = new Checks("ReadmeTest");
    private static final String INDENT = "    ";
    private static final String FIRST_LINE = "Wikiwright wiki = new Wikiwright();";
    private static final Pattern TYPING = Pattern.compile(
            "for \\(char sign : \"(.*)\"\\.toCharArray\\(\\)\\) wiki\\.type\\(sign\\);");
    private static final Pattern CALL = Pattern.compile(
            "wiki\\.(\\w+)\\((.*?)\\); +// ((?:throws )?[\\w-]+): .*");

    private static void play(Wikiwright wiki, String line) throws IllegalAccessException {
        Matcher typing = TYPING.matcher(line);
        Matcher call = CALL.matcher(line);
        if (typing.matches()) {
            for (char sign : typing.group(1).toCharArray()) {
                wiki.type(sign);
            }
        } else if (call.matches()) {
            CHECKS.due(line, answer(wiki, call.group(1), call.group(2)), call.group(3));
        } else {
            CHECKS.due("a line of the example that can be read: " + line, false, true);
        }
    }

    private static String answer(Wikiwright wiki, String name, String arguments)
            throws IllegalAccessException {
        Method method = named(name);
        String[] written = arguments.isEmpty() ? new String[0] : arguments.split(", ");
        Object[] given = new Object[written.length];
        for (int at = 0; at < given.length; at++) {
            given[at] = value(written[at]);
        }
        try {
            return method.invoke(wiki, given).toString();
        } catch (InvocationTargetException thrown) {
            return "throws " + thrown.getCause().getClass().getSimpleName();
        }
    }

    private static Method named(String name) {
        for (Method method : Wikiwright.class.getDeclaredMethods()) {
            if (method.getName().equals(name) && Modifier.isPublic(method.getModifiers())) {
                return method;
            }
        }
        throw new IllegalArgumentException("README.md calls " + name);
    }

    private static Object value(String written) {
        switch (written) {
            case "true":
            case "false":
                return Boolean.valueOf(written);
            case "Wikiwright.NONE":
                return Wikiwright.NONE;
            default:
                return Integer.valueOf(written);
        }
    }

    public static void main(String[] args) throws IOException, IllegalAccessException {
        Wikiwright wiki = null;
        int played = 0;
        for (String line : Files.readAllLines(Path.of("README.md"))) {
            if (line.equals(INDENT + FIRST_LINE)) {
                wiki = new Wikiwright();
            } else if (wiki != null && !line.startsWith(INDENT)) {
                break;
            } else if (wiki != null) {
                play(wiki, line.substring(INDENT.length()));
                played++;
            }
        }
        CHECKS.due("the example is found", played > 0, true);
        CHECKS.finish();
    }
}
