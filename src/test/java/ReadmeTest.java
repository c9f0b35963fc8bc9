import java.io.IOException;
import java.lang.reflect.Method;
import java.lang.reflect.Modifier;
import java.nio.file.DirectoryStream;
import java.nio.file.Files;
import java.nio.file.Path;
import java.util.regex.Matcher;
import java.util.regex.Pattern;

/**
 * README.md says how to use the class and how to run its tests: each call of its example is made in its order and has
 * to answer what stands behind it, and the page has to name every call and every test. It is run from the project's folder.
 */
public final class ReadmeTest {
    private static final Path PAGE = Path.of("README.md");
    /** A line of the example: the call, its arguments, and the answer ahead of what is said of it. */
    private static final Pattern CALL = Pattern.compile("plant\\.(\\w+)\\(([^)]*)\\);\\s*// (-?\\d+).*");
    private static int wrong = 0;

    private static void complain(String what) {
        wrong++;
        System.out.println(what);
    }

    private static Method methodOf(String name) {
        for (Method method : LakePlant.class.getDeclaredMethods()) {
            if (method.getName().equals(name) && Modifier.isPublic(method.getModifiers())) {
                return method;
            }
        }
        throw new IllegalArgumentException("LakePlant has no " + name + "()");
    }

    private static Object[] argumentsOf(Method method, String words) {
        Class<?>[] types = method.getParameterTypes();
        String[] parts = words.isEmpty() ? new String[0] : words.split(",");
        Object[] arguments = new Object[parts.length];
        for (int i = 0; i < parts.length; i++) {
            long number = Long.decode(parts[i].trim().replace("L", ""));
            if (types[i] == long.class) {
                arguments[i] = number;
            } else {
                arguments[i] = (int) number;
            }
        }
        return arguments;
    }

    private static void example(String page) throws ReflectiveOperationException {
        LakePlant plant = new LakePlant();
        int calls = 0;
        for (String line : page.split("\n")) {
            Matcher call = CALL.matcher(line);
            if (call.matches()) {
                calls++;
                Method method = methodOf(call.group(1));
                Object answer = method.invoke(plant, argumentsOf(method, call.group(2)));
                if (!answer.equals(Integer.valueOf(call.group(3)))) {
                    complain(line + " answered " + answer);
                }
            } else if (line.startsWith("plant.")) {
                complain(line + " can't be read");
            }
        }
        if (calls == 0) {
            complain("there is no example");
        }
    }

    private static void dueName(String page, String name) {
        if (!page.contains("`" + name + "`")) {
            complain(name + " is not named");
        }
    }

    private static void names(String page) throws IOException {
        for (Method method : LakePlant.class.getDeclaredMethods()) {
            if (Modifier.isPublic(method.getModifiers())) {
                dueName(page, method.getName());
            }
        }
        try (DirectoryStream<Path> tests = Files.newDirectoryStream(Path.of("src/test/java"), "*.java")) {
            for (Path test : tests) {
                dueName(page, test.getFileName().toString().replace(".java", ""));
            }
        }
        if (!page.contains("\n.ci/run\n")) {
            complain("it is not told how the tests are run");
        }
    }

    public static void main(String[] args) throws IOException, ReflectiveOperationException {
        String page = Files.readString(PAGE);
        example(page);
        names(page);
        System.out.println(wrong == 0 ? "README.md is as due" : wrong + " things of README.md are not as due");
        if (wrong != 0) {
            System.exit(1);
        }
    }
}
