import java.lang.reflect.Field;
import java.lang.reflect.Method;
import java.lang.reflect.Modifier;
import java.nio.file.Files;
import java.nio.file.Path;
import java.util.Arrays;
import java.util.Set;
import java.util.TreeSet;

/** The face of the class, and some rules of LANGUAGE.md that its source shows. */
public final class FaceTest {

    private static final Checks CHECKS = new Checks("FaceTest");
    private static final Set<String> FACE = Set.of(
            "int type(char)", "int wipe()", "int fault()", "int save(int,int,int)",
            "int undo(int,int,int)", "int move(int,int,int)", "boolean hide(int,int,int)",
            "int revisions(int)", "int author(int,int)", "int text(int,int,int,int)",
            "int differs(int,int,int)", "int size(int)", "int shown(int,int)",
            "int shownAnew(int,int)", "boolean isFresh(int)", "int links(int)",
            "int linked(int)", "int labels(int)", "int stands(int)", "int search()",
            "int waiting()", "int work(int)", "int pass(int)", "int rank(int,int)",
            "int protect(int,int,boolean)", "int needs(int)", "boolean watch(int,int,boolean)",
            "int news(int)");

    private static String told(Method method) {
        StringBuilder told = new StringBuilder();
        told.append(method.getReturnType().getSimpleName()).append(' ').append(method.getName());
        told.append('(');
        told.append(String.join(",", Arrays.stream(method.getParameterTypes())
                .map(Class::getSimpleName).toList()));
        return told.append(')').toString();
    }

    private static void face() {
        Set<String> found = new TreeSet<>();
        Set<String> names = new TreeSet<>();
        for (Method method : Wikiwright.class.getDeclaredMethods()) {
            if (Modifier.isPublic(method.getModifiers())) {
                found.add(told(method));
                names.add(method.getName());
            }
        }
        CHECKS.due("the public methods", found.toString(), new TreeSet<>(FACE).toString());
        for (Method method : Wikiwright.class.getDeclaredMethods()) {
            boolean isPublic = Modifier.isPublic(method.getModifiers());
            CHECKS.due(method + " is public or private",
                    isPublic || Modifier.isPrivate(method.getModifiers()), true);
        }
        for (Class<?> inner : Wikiwright.class.getDeclaredClasses()) {
            for (Method method : inner.getDeclaredMethods()) {
                CHECKS.due(method + " bears no name of the face",
                        names.contains(method.getName()), false);
            }
        }
        CHECKS.due("classes, the outer one with them",
                Wikiwright.class.getDeclaredClasses().length + 1 <= 12, true);
        CHECKS.due("final", Modifier.isFinal(Wikiwright.class.getModifiers()), true);
        CHECKS.due("constructors", Wikiwright.class.getDeclaredConstructors().length, 1);
        for (Field field : Wikiwright.class.getDeclaredFields()) {
            boolean isConstant = field.getName().equals("NONE");
            CHECKS.due(field.getName() + " is private",
                    Modifier.isPrivate(field.getModifiers()), !isConstant);
        }
    }

    private static void source() throws java.io.IOException {
        String source = Files.readString(Path.of("src/main/java/Wikiwright.java"));
        String[] ruledOut = {"import ", "package ", "->", "::", "catch", "finally", "assert",
            "synchronized", "Objects.", "System.out", "Exact(", "hashCode", "equals(", "\" +",
            "+ \"", "instanceof", "var ", "Random", "Thread", "System.nano", "\t"};
        for (String word : ruledOut) {
            CHECKS.due("the source holds " + word, source.contains(word), false);
        }
        for (String line : source.split("\n")) {
            CHECKS.due("a short line: " + line, line.length() <= 100, true);
            CHECKS.due("plain signs: " + line, line.chars().allMatch(sign -> sign < 128), true);
        }
    }

    public static void main(String[] args) throws java.io.IOException {
        face();
        source();
        CHECKS.finish();
    }
}
