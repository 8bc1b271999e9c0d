import java.io.IOException;
import java.lang.reflect.Constructor;
import java.lang.reflect.Field;
import java.lang.reflect.Method;
import java.lang.reflect.Modifier;
import java.nio.file.Files;
import java.nio.file.Path;
import java.util.ArrayList;
import java.util.List;
import java.util.TreeSet;
import java.util.regex.Matcher;
import java.util.regex.Pattern;
import java.util.stream.Collectors;
import java.util.stream.Stream;

// The document from its first line to its last: its face is the one of the class,
// and each of its sentences stands beside a test (Due.says). The arguments are the
// paths of DOC.md, of the tests, and of PathTracker.java.
public final class SentenceTests {
    private static final Pattern QUOTE = Pattern.compile("Due\\.says\\(((?:\\s*\\+?\\s*\"(?:[^\"\\\\]|\\\\.)*\")+)\\)");
    private static final Pattern LITERAL = Pattern.compile("\"((?:[^\"\\\\]|\\\\.)*)\"");
    // What asks for nothing: headings, the marks of a text, the face, which is compared
    // by itself, and what is not promised.
    private static final String[] NO_SENTENCES = {
        "(?m)^#.*$", "(?s)```java.*?```", "```(?:text)?", "`(?:int \\w+|PathTracker)\\([^`]*\\)`:",
        "Ahead of the calls [^\\n]*", "(?s)How the state is held inside the object is free.*"
    };

    public static void main(String[] args) throws IOException {
        Due.document(args);
        String document = Files.readString(Path.of(args[0]));
        face(document);
        promisesOfTheFace(document);
        sections(document, Files.readString(Path.of(args[2])));
        everySentence(document, quotes(Path.of(args[1])));
        Due.end("SentenceTests");
    }

    private static String parameters(Class<?>[] types) {
        return Stream.of(types).map(Class::getName).collect(Collectors.joining(", "));
    }

    // The lines of the face, with the parameters' names taken away.
    private static void face(String document) {
        int begin = document.indexOf("```java");
        TreeSet<String> due = new TreeSet<>();
        for (String line : document.substring(begin + 7, document.indexOf("```", begin + 7)).split("\n")) {
            if (line.endsWith(";")) {
                due.add(line.trim().replaceAll("int \\w+(?=[,)])", "int"));
            }
        }
        Due.is("lines of the face", due.size(), 22);
        TreeSet<String> told = new TreeSet<>();
        for (Field field : PathTracker.class.getFields()) {
            told.add(Modifier.toString(field.getModifiers()) + " " + field.getType() + " " + field.getName() + " = " + valueOf(field) + ";");
        }
        for (Constructor<?> constructor : PathTracker.class.getConstructors()) {
            told.add("public PathTracker(" + parameters(constructor.getParameterTypes()) + ");");
        }
        for (Method method : PathTracker.class.getMethods()) {
            if (method.getDeclaringClass() == PathTracker.class) {
                String mark = Modifier.toString(method.getModifiers()) + " " + method.getReturnType();
                told.add(mark + " " + method.getName() + "(" + parameters(method.getParameterTypes()) + ");");
            }
        }
        for (String line : due) {
            Due.is("it is in the class: " + line, told.contains(line) ? 1 : 0, 1);
        }
        for (String line : told) {
            Due.is("it is in the document: " + line, due.contains(line) ? 1 : 0, 1);
        }
    }

    private static String valueOf(Field field) {
        try {
            return String.valueOf(field.getInt(null));
        } catch (IllegalAccessException e) {
            return "none";
        }
    }

    // Each promise but the first one names its call as the face does.
    private static void promisesOfTheFace(String document) {
        for (int number = 1; number <= 18; number++) {
            int begin = document.indexOf("## Promise " + number + ": ");
            int end = document.indexOf("\n## ", begin + 1);
            Due.is("the promise " + number + " is there", begin > 0 && end > begin ? 1 : 0, 1);
            Matcher m = Pattern.compile("`((?:int )?\\w+\\([^`]*\\))`:").matcher(document.substring(begin, end));
            Due.is("it names its call", m.find() && document.contains("public " + m.group(1) + ";") ? 1 : 0, 1);
        }
    }

    // Behind the line of its section, and before the next one, stands each of its calls.
    private static void sections(String document, String program) {
        Matcher m = Pattern.compile("Ahead of the calls (.*) the interface says: (---- [^\\n]*)\\.").matcher(document);
        int seen = 0;
        while (m.find()) {
            seen++;
            int begin = program.indexOf("// " + m.group(2));
            int end = program.indexOf("// ----", begin + 1);
            String section = begin < 0 ? "" : program.substring(begin, end < 0 ? program.length() : end);
            for (String name : m.group(1).replaceAll("[` ]", "").split(",")) {
                Due.is(m.group(2) + ": " + name, section.contains("public int " + name + "(") ? 1 : 0, 1);
            }
        }
        Due.is("sections of the face", seen, 3);
    }

    private static List<String> quotes(Path tests) throws IOException {
        List<String> quotes = new ArrayList<>();
        try (Stream<Path> files = Files.list(tests)) {
            for (Path file : files.filter(f -> f.toString().endsWith("EdgeTests.java")).collect(Collectors.toList())) {
                Matcher m = QUOTE.matcher(Files.readString(file));
                while (m.find()) {
                    StringBuilder quote = new StringBuilder();
                    Matcher literal = LITERAL.matcher(m.group(1));
                    while (literal.find()) {
                        quote.append(literal.group(1).replace("\\\"", "\""));
                    }
                    quotes.add(quote.toString());
                }
            }
        }
        return quotes;
    }

    private static String words(String text) {
        String words = text;
        for (String none : NO_SENTENCES) {
            words = words.replaceAll(none, " ");
        }
        return words.replaceAll("\\s+", " ");
    }

    private static void everySentence(String document, List<String> quotes) {
        String words = words(document);
        boolean[] quoted = new boolean[words.length()];
        for (String quote : quotes) {
            String part = words(quote);
            for (int at = words.indexOf(part); at >= 0; at = words.indexOf(part, at + 1)) {
                for (int k = 0; k < part.length(); k++) {
                    quoted[at + k] = true;
                }
            }
        }
        Due.is("there are sentences", words.length() > 10000 ? 1 : 0, 1);
        int begin = -1;
        for (int k = 0; k <= words.length(); k++) {
            boolean missing = k < words.length() && !quoted[k];
            if (missing && begin < 0) {
                begin = k;
            } else if (!missing && begin >= 0) {
                String rest = words.substring(begin, k);
                Due.is("no test says: " + rest, rest.matches("[^\\p{L}\\p{N}\"]*") ? 0 : 1, 0);
                begin = -1;
            }
        }
    }
}
