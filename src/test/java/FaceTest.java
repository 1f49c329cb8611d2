import java.io.IOException;
import java.lang.reflect.Constructor;
import java.lang.reflect.Field;
import java.lang.reflect.Method;
import java.lang.reflect.Modifier;
import java.nio.file.Files;
import java.nio.file.Path;
import java.util.Set;
import java.util.TreeSet;

/** The public face of the document, and those rules of LANGUAGE.md that can be seen from outside or by single words. */
final class FaceTest {
    private static final String INDEX = "IndexOutOfBoundsException";
    private static final String ARGUMENT = "IllegalArgumentException";
    private static final String STATE = "IllegalStateException";

    private FaceTest() {
    }

    public static void main(String[] args) throws IOException {
        publicMethods();
        nothingElseIsVisible();
        namesOfPublicMethodsStandAlone();
        classesInside();
        noForbiddenWords();
        Check.end("FaceTest");
    }

    private static Set<String> documentedMethods() {
        return new TreeSet<>(Set.of(
                "int addSinger(int, int, int) " + ARGUMENT + " " + STATE,
                "boolean tell(int, int, boolean) " + INDEX + " " + ARGUMENT,
                "int change(int, int) " + INDEX + " " + ARGUMENT,
                "int range(int, int) " + ARGUMENT,
                "int chord(int, int, int, int) " + ARGUMENT + " " + STATE,
                "int addPiece(int) " + ARGUMENT + " " + STATE,
                "int setTone(int, int, int, int) " + INDEX + " " + ARGUMENT + " " + STATE,
                "int faultsAt(int, int) " + INDEX,
                "int faults(int) " + INDEX,
                "int leastFaults(int, int, int) " + INDEX + " " + ARGUMENT,
                "int shift(int, int) " + INDEX + " " + ARGUMENT + " " + STATE,
                "int dates(int) " + INDEX,
                "int missed(int) " + ARGUMENT,
                "int programme(int, int) " + ARGUMENT,
                "int duration(int, int) " + ARGUMENT,
                "int rehearse(int, int) " + INDEX + " " + ARGUMENT,
                "int weakness(int, int) " + INDEX,
                "int weakest(int) " + INDEX));
    }

    private static String describe(Method method) {
        StringBuilder text = new StringBuilder();
        text.append(method.getReturnType().getSimpleName()).append(' ').append(method.getName()).append('(');
        String separator = "";
        for (Class<?> type : method.getParameterTypes()) {
            text.append(separator).append(type.getSimpleName());
            separator = ", ";
        }
        text.append(')');
        for (Class<?> thrown : method.getExceptionTypes()) {
            text.append(' ').append(thrown.getSimpleName());
        }
        return text.toString();
    }

    private static void publicMethods() {
        Set<String> found = new TreeSet<>();
        for (Method method : ChoirPlanner.class.getDeclaredMethods()) {
            if (!Modifier.isPrivate(method.getModifiers())) {
                Check.that(method + " is public alone", method.getModifiers() == Modifier.PUBLIC);
                found.add(describe(method));
            }
        }
        Check.that("methods: " + found, found.equals(documentedMethods()));
    }

    private static void nothingElseIsVisible() {
        Check.equal("class", ChoirPlanner.class.getModifiers(), Modifier.PUBLIC | Modifier.FINAL);
        for (Field field : ChoirPlanner.class.getDeclaredFields()) {
            Check.that(field + " is private", Modifier.isPrivate(field.getModifiers()));
        }
        Constructor<?>[] constructors = ChoirPlanner.class.getDeclaredConstructors();
        Check.equal("constructors", constructors.length, 1);
        Check.equal("parameters", constructors[0].getParameterCount(), 0);
        Check.equal("constructor", constructors[0].getModifiers(), Modifier.PUBLIC);
    }

    private static void namesOfPublicMethodsStandAlone() {
        Set<String> names = new TreeSet<>();
        for (Method method : ChoirPlanner.class.getDeclaredMethods()) {
            if (Modifier.isPublic(method.getModifiers())) {
                names.add(method.getName());
            }
        }
        for (Method method : ChoirPlanner.class.getDeclaredMethods()) {
            Check.that(method + " bears its own name",
                    Modifier.isPublic(method.getModifiers()) || !names.contains(method.getName()));
        }
        for (Class<?> inside : ChoirPlanner.class.getDeclaredClasses()) {
            for (Method method : inside.getDeclaredMethods()) {
                Check.that(method + " bears its own name", !names.contains(method.getName()));
            }
        }
    }

    private static void classesInside() {
        for (Class<?> inside : ChoirPlanner.class.getDeclaredClasses()) {
            Check.that(inside + " is static", Modifier.isStatic(inside.getModifiers()));
            Check.that(inside + " is not public", !Modifier.isPublic(inside.getModifiers()));
            Check.that(inside + " is not protected", !Modifier.isProtected(inside.getModifiers()));
            Check.that(inside + " has few fields", inside.getDeclaredFields().length <= 20);
        }
        Check.that("few classes", ChoirPlanner.class.getDeclaredClasses().length < 12);
    }

    private static void noForbiddenWords() throws IOException {
        String source = Files.readString(Path.of("src/main/java/ChoirPlanner.java"));
        String code = source.replaceAll("(?s)/\\*.*?\\*/", " ").replaceAll("//[^\n]*", " ").replaceAll("\"[^\"\n]*\"", "\"\"");
        String[] words = {"package", "import", "try", "catch", "finally", "synchronized", "assert", "equals", "hashCode",
            "toString", "Exact", "System", "Object", "instanceof"};
        for (String word : words) {
            Check.that("no word " + word, !code.matches("(?s).*\\b" + word + "\\b.*"));
        }
        Check.that("no lambda", !code.contains("->"));
        Check.that("no method reference", !code.contains("::"));
        Check.that("plain signs alone", source.chars().allMatch(sign -> sign == '\n' || sign >= ' ' && sign < 127));
    }
}
