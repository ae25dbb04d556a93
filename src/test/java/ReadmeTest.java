import java.io.IOException;
import java.lang.reflect.InvocationTargetException;
import java.lang.reflect.Method;
import java.lang.reflect.Modifier;
import java.nio.file.DirectoryStream;
import java.nio.file.Files;
import java.nio.file.Path;
import java.util.regex.Matcher;
import java.util.regex.Pattern;

/** README.md holds: its example answers as it says, and each method and each test is named in it. */
public final class ReadmeTest {
    private static final Check CHECK = new Check("ReadmeTest");
    // A call, and behind it its answer, a colon and more words.
    private static final Pattern CALL = Pattern.compile("x\\.(\\w+)\\((.*)\\); +// ([^:]+): .+");

    public static void main(String[] args) throws IOException {
        String readme = Files.readString(Path.of("README.md"));
        exampleAnswersAsItSays(readme);
        eachMethodIsNamed(readme);
        eachTestIsNamed(readme);
        CHECK.end();
    }

    private static void exampleAnswersAsItSays(String readme) {
        int begin = readme.indexOf("```java\n") + 8;
        String[] lines = readme.substring(begin, readme.indexOf("```", begin)).split("\n");
        CHECK.same("the example's first line", lines[0], "Signkinds x = new Signkinds();");
        Signkinds x = new Signkinds();
        for (int k = 1; k < lines.length; k++) {
            Matcher call = CALL.matcher(lines[k]);
            if (!call.matches()) {
                CHECK.same("the example's line " + lines[k], "no call with its answer", "a call with its answer");
                continue;
            }
            CHECK.same(lines[k], answer(x, call.group(1), call.group(2)), call.group(3));
        }
    }

    /** What the call answers, written as README.md writes it. */
    private static String answer(Signkinds x, String name, String arguments) {
        String[] texts = arguments.isEmpty() ? new String[0] : arguments.split(", ");
        try {
            Object got = method(name).invoke(x, values(method(name), texts));
            return got instanceof String ? "\"" + got + "\"" : String.valueOf(got);
        } catch (InvocationTargetException thrown) {
            return "throws " + thrown.getCause().getClass().getSimpleName();
        } catch (ReflectiveOperationException | IllegalArgumentException wrong) {
            return wrong.toString();
        }
    }

    private static Method method(String name) throws NoSuchMethodException {
        for (Method method : Signkinds.class.getDeclaredMethods()) {
            if (method.getName().equals(name) && Modifier.isPublic(method.getModifiers())) {
                return method;
            }
        }
        throw new NoSuchMethodException(name);
    }

    private static Object[] values(Method method, String[] texts) {
        Class<?>[] types = method.getParameterTypes();
        if (types.length != texts.length) {
            throw new IllegalArgumentException(method.getName() + " takes " + types.length + " arguments");
        }
        Object[] values = new Object[texts.length];
        for (int k = 0; k < texts.length; k++) {
            values[k] = types[k] == boolean.class ? (Object) texts[k].equals("true") : Integer.valueOf(texts[k]);
        }
        return values;
    }

    private static void eachMethodIsNamed(String readme) {
        for (Method method : Signkinds.class.getDeclaredMethods()) {
            if (Modifier.isPublic(method.getModifiers())) {
                String name = "`" + method.getName() + "`";
                CHECK.same("README.md names " + name, readme.contains(name), true);
            }
        }
    }

    private static void eachTestIsNamed(String readme) throws IOException {
        try (DirectoryStream<Path> tests = Files.newDirectoryStream(Path.of("src/test/java"), "*Test.java")) {
            for (Path test : tests) {
                String name = "`" + test.getFileName().toString().replace(".java", "") + "`";
                CHECK.same("README.md names " + name, readme.contains(name), true);
            }
        }
    }
}
