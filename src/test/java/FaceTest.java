import java.io.IOException;
import java.lang.reflect.Constructor;
import java.lang.reflect.Field;
import java.lang.reflect.Member;
import java.lang.reflect.Method;
import java.lang.reflect.Modifier;
import java.nio.file.Files;
import java.nio.file.Path;
import java.util.Arrays;
import java.util.TreeSet;

/** The class has the face of the document, and no other member that can be seen. */
public final class FaceTest {
    private static final Check CHECK = new Check();

    public static void main(String[] args) throws IOException {
        TreeSet<String> due = new TreeSet<>();
        for (String line : Files.readAllLines(Path.of("../shared/DOC.md"))) {
            String text = line.trim();
            if (text.startsWith("public ") && text.endsWith(";")) {
                due.add(plain(text.substring(7, text.length() - 1)));
            }
        }
        TreeSet<String> got = new TreeSet<>();
        for (Method method : Downhill.class.getDeclaredMethods()) {
            if (isSeen(method)) {
                got.add(method.getReturnType().getSimpleName() + " " + method.getName()
                        + types(method.getParameterTypes()) + thrown(method.getExceptionTypes()));
            }
        }
        for (Constructor<?> made : Downhill.class.getDeclaredConstructors()) {
            got.add("Downhill" + types(made.getParameterTypes()) + thrown(made.getExceptionTypes()));
        }
        CHECK.is("the face", got.toString(), due.toString());
        CHECK.is("as many as the document has", got.size(), 45);
        for (Field field : Downhill.class.getDeclaredFields()) {
            CHECK.is(field.getName(), isSeen(field), false);
        }
        CHECK.is("final", Modifier.isFinal(Downhill.class.getModifiers()), true);
        for (Class<?> inside : Downhill.class.getDeclaredClasses()) {
            CHECK.is(inside.getName(),
                    !Modifier.isPublic(inside.getModifiers()) && !Modifier.isProtected(inside.getModifiers()), true);
        }
        CHECK.end("the face");
    }

    private static boolean isSeen(Member member) {
        return !Modifier.isPrivate(member.getModifiers()) && !member.isSynthetic();
    }

    private static String types(Class<?>[] types) {
        return Arrays.stream(types).map(Class::getSimpleName).toList().toString();
    }

    private static String thrown(Class<?>[] types) {
        return Arrays.stream(types).map(Class::getSimpleName).sorted().toList().toString();
    }

    /** "int arity(int sign, int arity) throws A, B" as "int arity[int, int][A, B]". */
    private static String plain(String line) {
        int open = line.indexOf('(');
        int close = line.indexOf(')');
        String inside = line.substring(open + 1, close).trim();
        String[] args = inside.isEmpty() ? new String[0] : inside.split(", ");
        String rest = line.substring(close + 1).replace("throws", "").trim();
        String[] thrown = rest.isEmpty() ? new String[0] : rest.split(", ");
        Arrays.sort(thrown);
        String types = Arrays.stream(args).map(arg -> arg.split(" ")[0]).toList().toString();
        return line.substring(0, open) + types + Arrays.toString(thrown);
    }
}
