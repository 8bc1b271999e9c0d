import java.io.IOException;
import java.lang.reflect.Field;
import java.lang.reflect.Method;
import java.lang.reflect.Modifier;
import java.nio.file.Files;
import java.util.ArrayList;
import java.util.List;
import java.util.TreeSet;
import java.util.regex.Matcher;
import java.util.regex.Pattern;

// The rules of ../shared/LANGUAGE.md, as far as they can be seen by a machine.
// The path of PathTracker.java is the argument.
public final class LanguageTests {
    private static final String[] NOT_IN_IT = {
        "throw", "throws", "try", "catch", "finally", "synchronized", "assert", "import", "package", "double", "float",
        "native", "volatile", "transient", "protected", "Object", "System", "Exception", "Exact", "->", "::", "@"
    };
    private static final String FACE = "again coefficient count endAt equation fault meets next path restore save set"
        + " track trackAll type undo wipe";

    public static void main(String[] args) throws IOException {
        face();
        List<Class<?>> all = new ArrayList<>();
        all.add(PathTracker.class);
        for (Class<?> inside : PathTracker.class.getDeclaredClasses()) {
            all.add(inside);
            Due.is("static: " + inside, Modifier.isStatic(inside.getModifiers()) ? 1 : 0, 1);
            Due.is("not public: " + inside, inside.getModifiers() & (Modifier.PUBLIC | Modifier.PROTECTED), 0);
        }
        Due.is("at most twelve classes", all.size() <= 12 ? 1 : 0, 1);
        for (Class<?> one : all) {
            members(one);
        }
        text(Files.readString(java.nio.file.Path.of(args[0])));
        Due.end("LanguageTests");
    }

    private static void face() {
        TreeSet<String> names = new TreeSet<>();
        for (Method method : PathTracker.class.getDeclaredMethods()) {
            if (!Modifier.isPrivate(method.getModifiers())) {
                names.add(method.getName());
                Due.is("public: " + method, Modifier.isPublic(method.getModifiers()) ? 1 : 0, 1);
                Due.is("an int: " + method, method.getReturnType() == int.class ? 1 : 0, 1);
            }
        }
        Due.is("the face: " + names, String.join(" ", names).equals(FACE) ? 1 : 0, 1);
        Due.is("one constructor", PathTracker.class.getDeclaredConstructors().length, 1);
        Due.is("final", Modifier.isFinal(PathTracker.class.getModifiers()) ? 1 : 0, 1);
        int seen = 0;
        for (Field field : PathTracker.class.getDeclaredFields()) {
            seen += Modifier.isPrivate(field.getModifiers()) ? 0 : 1;
        }
        Due.is("four constants", seen, 4);
    }

    private static void members(Class<?> one) {
        int fields = 0;
        for (Field field : one.getDeclaredFields()) {
            if (Modifier.isStatic(field.getModifiers())) {
                Due.is("final: " + field, Modifier.isFinal(field.getModifiers()) ? 1 : 0, 1);
            } else {
                fields++;
            }
        }
        Due.is("at most twenty fields: " + one, fields <= 20 ? 1 : 0, 1);
        for (Method method : one.getDeclaredMethods()) {
            Due.is("at most seven parameters: " + method, method.getParameterCount() <= 7 ? 1 : 0, 1);
            boolean named = (" " + FACE + " ").contains(" " + method.getName() + " ");
            Due.is("the name is not of the face: " + method, named && one != PathTracker.class ? 1 : 0, 0);
        }
    }

    private static void text(String source) {
        String code = source.replaceAll("//[^\n]*", "");
        for (String word : NOT_IN_IT) {
            boolean letters = Character.isLetter(word.charAt(0));
            Matcher m = Pattern.compile(letters ? "\\b\\w*" + Pattern.quote(word) + "\\b" : Pattern.quote(word)).matcher(code);
            Due.is("not in it: " + word, m.find() ? 1 : 0, 0);
        }
        Due.is("no texts are joined", code.contains("\"") ? 1 : 0, 0);
        int begun = -1;
        int line = 0;
        for (String row : source.split("\n")) {
            line++;
            if (row.matches("( {4}| {8})\\S.*\\) \\{")) {
                begun = line;
            } else if (row.matches("( {4}| {8})\\}") && begun > 0) {
                Due.is("at most sixty lines: the method in line " + begun, line - begun <= 60 ? 1 : 0, 1);
                begun = -1;
            }
        }
    }
}
