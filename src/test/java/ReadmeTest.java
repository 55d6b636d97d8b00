import java.io.IOException;
import java.lang.reflect.InvocationTargetException;
import java.lang.reflect.Method;
import java.lang.reflect.Modifier;
import java.nio.file.DirectoryStream;
import java.nio.file.Files;
import java.nio.file.Path;
import java.util.Set;
import java.util.TreeSet;
import java.util.regex.Matcher;
import java.util.regex.Pattern;

/** What README.md shows of the class is true, and it tells of each test how it is run. */
public final class ReadmeTest {
    private static final Check CHECK = new Check();
    private static final Pattern CALL = Pattern.compile("hill\\.([a-zA-Z]+)\\(([^)]*)\\); +// ([^:]*?)(: .*)?");

    public static void main(String[] args) throws IOException {
        String readme = Files.readString(Path.of("README.md"));
        calls(readme);
        tests(readme);
        CHECK.end("README.md");
    }

    private static void calls(String readme) {
        Set<String> shown = new TreeSet<>();
        Downhill hill = null;
        Matcher blocks = Pattern.compile("(?s)```java\n(.*?)```").matcher(readme);
        while (blocks.find()) {
            for (String line : blocks.group(1).split("\n")) {
                Matcher call = CALL.matcher(line);
                if (line.equals("Downhill hill = new Downhill();")) {
                    hill = new Downhill();
                } else if (hill != null && call.matches()) {
                    shown.add(call.group(1));
                    CHECK.is(line, answer(hill, call.group(1), call.group(2)), call.group(3));
                } else {
                    CHECK.is(line, "no call with an answer", "a call with an answer");
                }
            }
        }
        Set<String> face = new TreeSet<>();
        for (Method method : Downhill.class.getDeclaredMethods()) {
            if (Modifier.isPublic(method.getModifiers())) {
                face.add(method.getName());
            }
        }
        CHECK.is("the calls that are shown", shown, face);
    }

    private static String answer(Downhill hill, String name, String text) {
        String[] told = text.isEmpty() ? new String[0] : text.split(", ");
        Object[] args = new Object[told.length];
        for (int i = 0; i < told.length; i++) {
            boolean isTruth = told[i].equals("true") || told[i].equals("false");
            args[i] = isTruth ? (Object) Boolean.valueOf(told[i]) : (Object) Integer.valueOf(told[i]);
        }
        for (Method method : Downhill.class.getDeclaredMethods()) {
            if (Modifier.isPublic(method.getModifiers()) && method.getName().equals(name)) {
                return answer(hill, method, args);
            }
        }
        return "no such call";
    }

    private static String answer(Downhill hill, Method method, Object[] args) {
        try {
            Object answer = method.invoke(hill, args);
            return answer instanceof String ? "\"" + answer + "\"" : "" + answer;
        } catch (InvocationTargetException e) {
            return "throws " + e.getCause().getClass().getSimpleName();
        } catch (IllegalAccessException e) {
            throw new IllegalStateException(e);
        }
    }

    private static void tests(String readme) throws IOException {
        Set<String> there = new TreeSet<>();
        try (DirectoryStream<Path> files = Files.newDirectoryStream(Path.of("src/test/java"), "*Test.java")) {
            for (Path file : files) {
                there.add(file.getFileName().toString().replace(".java", ""));
            }
        }
        Set<String> told = new TreeSet<>();
        Matcher row = Pattern.compile("(?m)^\\| ([A-Za-z]+Test) \\|").matcher(readme);
        while (row.find()) {
            told.add(row.group(1));
        }
        CHECK.is("the tests in the table", told, there);
        CHECK.is("the way to run them", readme.contains("```sh\nbash .ci/run\n```"), true);
        CHECK.is("which stands there", Files.exists(Path.of(".ci/run")), true);
    }
}
