import java.io.IOException;
import java.nio.file.Files;
import java.nio.file.Path;
import java.util.Set;
import java.util.TreeSet;
import java.util.regex.Matcher;
import java.util.regex.Pattern;

/** What of ../shared/LANGUAGE.md can be seen in the text of the program. */
public final class LanguageTest {
    private static final Check CHECK = new Check();

    private static final String[][] FORBIDDEN = {
        {"2 a lambda or an arrow", "->"}, {"2 a method reference", "::"},
        {"3 a type", "\\b(Object|Map|Set|HashMap|Long|Double|Boolean|BigInteger|Optional|Stream|Random)\\b[^.]"},
        {"3 two dimensions of no numbers", "(boolean|String|[A-Z][a-z]+)\\[\\]\\["},
        {"4 the library", "System\\.(?!arraycopy\\b)"}, {"4 of Math", "Math\\.(?!max|min|abs|floorDiv|floorMod)"},
        {"4 of Math that throws", "Exact\\("}, {"4 of Arrays", "Arrays\\.(?!fill|copyOf)"},
        {"4 of texts", "String\\.(format|valueOf|join)|\\.(split|replace|trim|contains|chars|insert|compareTo)\\("},
        {"5 static state", "(?m)^ +(private )?static (?!final )[A-Za-z\\[\\]<>]+ [a-z][A-Za-z]*( =|;)"},
        {"5 a static block", "(?m)^ *static \\{"},
        {"6 a catch", "\\b(try|catch|finally|synchronized|assert)\\b"},
        {"6 of objects", "\\.(hashCode|toString\\(\\)\\.|getMessage|getClass)\\b"}, {"10 a text by +", "\" *\\+|\\+ *\""},
        {"13 a clock", "\\b(nanoTime|currentTimeMillis|Thread|Random|File)\\b"}, {"9 without end", "while *\\(true\\)|for *\\(;;"}};

    public static void main(String[] args) throws IOException {
        String source = Files.readString(Path.of("src/main/java/Downhill.java"));
        String code = source.replaceAll("(?s)/\\*.*?\\*/", "").replaceAll("//[^\n]*", "");
        for (String[] rule : FORBIDDEN) {
            Matcher matcher = Pattern.compile(rule[1]).matcher(code);
            CHECK.is("rule " + rule[0], matcher.find() ? matcher.group() : "none", "none");
        }
        imports(code);
        thrown(code);
        methods(code);
        CHECK.is("signs", source.chars().allMatch(sign -> sign < 127), true);
        CHECK.end("the language");
    }

    private static void imports(String code) {
        Matcher matcher = Pattern.compile("(?m)^import ([^;]+);").matcher(code);
        while (matcher.find()) {
            CHECK.is("4 import", Set.of("java.util.Arrays", "java.util.NoSuchElementException", "java.util.ArrayList",
                    "java.util.List").contains(matcher.group(1)), true);
        }
    }

    private static void thrown(String code) {
        Matcher matcher = Pattern.compile("throw [^;]*;").matcher(code);
        while (matcher.find()) {
            CHECK.is("6 " + matcher.group(), matcher.group().matches("throw new (IllegalStateException"
                    + "|IllegalArgumentException|IndexOutOfBoundsException|NoSuchElementException)\\(\"[^\"]*\"\\);"), true);
        }
    }

    /** The heads of the methods, how many lines they have, and that no other one bears a name of the face. */
    private static void methods(String code) {
        Set<String> face = new TreeSet<>();
        Matcher open = Pattern.compile("(?m)^    public [a-zA-Z]+ ([a-zA-Z]+)\\(").matcher(code);
        while (open.find()) {
            face.add(open.group(1));
        }
        CHECK.is("1 methods of the face", face.size(), 44);
        Matcher head = Pattern.compile("(?m)^( +)(?!public|new|return|throw|else)((?:[a-zA-Z\\[\\]]+ )+)([a-zA-Z]+)\\(([^)]*)\\) \\{")
                .matcher(code);
        while (head.find()) {
            CHECK.is("1 a name of the face: " + head.group(3), face.contains(head.group(3)), false);
            CHECK.is("11 parameters of " + head.group(3), head.group(4).split(",").length <= 7, true);
        }
        lengths(code);
    }

    private static void lengths(String code) {
        Matcher head = Pattern.compile("(?m)^( {4}| {8})(?!class|static final class)[a-zA-Z][^\n;=]*\\([^;{}]*\\{\n").matcher(code);
        while (head.find()) {
            int end = code.indexOf("\n" + head.group(1) + "}\n", head.end() - 1);
            long lines = code.substring(head.start(), Math.max(end, head.end())).lines().count() + 1;
            CHECK.is("11 lines of " + head.group().trim() + " " + lines, end >= 0 && lines <= 60, true);
        }
    }
}
