import java.io.IOException;
import java.lang.reflect.InvocationTargetException;
import java.lang.reflect.Method;
import java.lang.reflect.Modifier;
import java.nio.file.Files;
import java.nio.file.Path;
import java.util.List;
import java.util.Set;
import java.util.TreeSet;
import java.util.regex.Matcher;
import java.util.regex.Pattern;

/** Makes the calls that README.md shows, as they are written there, and compares the answers that it tells. */
final class ReadmeTest {
    private static final Pattern CALL = Pattern.compile("choir\\.(\\w+)\\(([^)]*)\\); +// (true|false|-?\\d+)\\b.*");

    private final ChoirPlanner choir = new ChoirPlanner();
    private final Set<String> shown = new TreeSet<>();

    private ReadmeTest() {
    }

    public static void main(String[] args) throws IOException, IllegalAccessException, InvocationTargetException {
        ReadmeTest test = new ReadmeTest();
        test.callsAreAnsweredAsShown(Files.readAllLines(Path.of("README.md")));
        test.theRefusalIsAsShown();
        test.noCallIsLeftOut();
        Check.end("ReadmeTest");
    }

    private void callsAreAnsweredAsShown(List<String> lines) throws IllegalAccessException, InvocationTargetException {
        for (String line : lines) {
            if (line.startsWith("choir.")) {
                Matcher call = CALL.matcher(line);
                boolean tells = call.matches();
                Check.that(line + " tells its answer", tells);
                if (tells) {
                    compare(call.group(1), call.group(2).split(", "), call.group(3));
                }
            }
        }
    }

    private void compare(String name, String[] written, String due) throws IllegalAccessException, InvocationTargetException {
        Method method = method(name);
        Check.that(name + " is a call of the face", method != null);
        if (method == null) {
            return;
        }
        Object[] arguments = new Object[written.length];
        for (int i = 0; i < written.length; i++) {
            if (method.getParameterTypes()[i] == boolean.class) {
                arguments[i] = Boolean.valueOf(written[i]);
            } else {
                arguments[i] = Integer.valueOf(written[i]);
            }
        }
        String got = String.valueOf(method.invoke(choir, arguments));
        Check.that(name + "(" + String.join(", ", written) + "): got " + got + ", README.md says " + due, got.equals(due));
        shown.add(name);
    }

    private static Method method(String name) {
        for (Method method : ChoirPlanner.class.getDeclaredMethods()) {
            if (Modifier.isPublic(method.getModifiers()) && method.getName().equals(name)) {
                return method;
            }
        }
        return null;
    }

    private void theRefusalIsAsShown() {
        Check.stateRefused("shift(0, 5)", () -> choir.shift(0, 5));
    }

    private void noCallIsLeftOut() {
        for (Method method : ChoirPlanner.class.getDeclaredMethods()) {
            if (Modifier.isPublic(method.getModifiers())) {
                Check.that("README.md shows " + method.getName(), shown.contains(method.getName()));
            }
        }
    }
}
