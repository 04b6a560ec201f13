import java.io.IOException;
import java.io.UncheckedIOException;
import java.lang.reflect.Field;
import java.lang.reflect.Method;
import java.lang.reflect.Modifier;
import java.nio.file.Files;
import java.nio.file.Path;
import java.util.ArrayList;
import java.util.Arrays;
import java.util.List;
import java.util.Set;
import java.util.TreeSet;
import java.util.regex.Matcher;
import java.util.regex.Pattern;

/** Those rules of LANGUAGE.md that can be seen from the file's words, or from the shape of its classes. */
public final class LanguageTest {
    private static final Due DUE = new Due("LanguageTest");
    private static final Path MAIN = Path.of("src/main/java");

    private static final String[] FORBIDDEN = {
        "package", "import", "protected", "throw", "throws", "try", "catch", "finally", "synchronized",
        "assert", "volatile", "transient", "native", "strictfp", "Object", "Exception", "Error", "Throwable",
        "Thread", "Random", "Runtime", "Class", "hashCode", "toString", "double", "float", "enum", "record"
    };
    // All that the class uses of the library: a new word here is looked up in rule 4 first.
    private static final Set<String> LIBRARY = Set.of("Math.min", "Math.max");

    public static void main(String[] args) throws IOException {
        String file = Files.readString(MAIN.resolve("VolumeHouse.java"));
        String code = withoutComments(file);
        oneFileOfPlainCharacters(file);
        noForbiddenWord(code);
        libraryIsAsListed(code);
        methodsStayShort(code.split("\n"));
        for (Class<?> c : classes()) {
            fieldsOf(c);
            methodsOf(c);
        }
        nestedClassesArePrivateAndStatic();
        DUE.end();
    }

    private static String withoutComments(String file) {
        Matcher comment = Pattern.compile("/\\*.*?\\*/|//[^\n]*", Pattern.DOTALL).matcher(file);
        // A comment's lines are kept, so that methods are as long here as in the file.
        return comment.replaceAll(m -> m.group().replaceAll("[^\n]", ""));
    }

    private static void oneFileOfPlainCharacters(String file) {
        try (var files = Files.walk(Path.of("src/main"))) {
            DUE.is("files of the program", (int) files.filter(Files::isRegularFile).count(), 1);
        } catch (IOException e) {
            throw new UncheckedIOException(e);
        }
        DUE.yes("plain characters alone", file.chars().allMatch(ch -> ch == '\n' || ch >= 32 && ch < 127));
    }

    private static void noForbiddenWord(String code) {
        for (String word : FORBIDDEN) {
            DUE.no("rules 2 to 6, 13: " + word, Pattern.compile("\\b" + word + "\\b").matcher(code).find());
        }
        DUE.no("rule 2: no lambda", code.contains("->"));
        DUE.no("rule 2: no method reference", code.contains("::"));
        DUE.no("rule 5: no static block", Pattern.compile("static\\s*\\{").matcher(code).find());
        DUE.no("rule 4: no function whose name ends in Exact", code.contains("Exact("));
        DUE.no("no text", code.contains("\""));
    }

    private static void libraryIsAsListed(String code) {
        Matcher used = Pattern.compile("\\b([A-Z][A-Za-z]*[a-z])\\.([a-z]\\w*)").matcher(code);
        while (used.find()) {
            DUE.yes("rule 4: " + used.group(), LIBRARY.contains(used.group()));
        }
        Matcher made = Pattern.compile("\\bnew\\s+(\\w+)\\s*([\\[(])").matcher(code);
        while (made.find()) {
            boolean own = classNames().contains(made.group(1)) && made.group(2).equals("(");
            boolean row = made.group(1).equals("int") && made.group(2).equals("[");
            DUE.yes("rule 3: " + made.group(), own || row);
        }
    }

    private static void methodsStayShort(String[] lines) {
        for (String indent : new String[] {"    ", "        "}) {
            int begin = -1;
            for (int i = 0; i < lines.length; i++) {
                if (lines[i].matches(indent + "(public|private) [^=;]*\\{")  && lines[i].contains("(")) {
                    begin = i;
                } else if (begin >= 0 && lines[i].equals(indent + "}")) {
                    DUE.yes("rule 11: at most 60 lines: " + lines[begin].trim(), i - begin < 60);
                    begin = -1;
                }
            }
        }
    }

    private static List<Class<?>> classes() {
        List<Class<?>> all = new ArrayList<>();
        all.add(VolumeHouse.class);
        all.addAll(Arrays.asList(VolumeHouse.class.getDeclaredClasses()));
        return all;
    }

    private static Set<String> classNames() {
        Set<String> names = new TreeSet<>();
        for (Class<?> c : classes()) {
            names.add(c.getSimpleName());
        }
        return names;
    }

    private static void nestedClassesArePrivateAndStatic() {
        DUE.yes("rule 11: at most twelve classes", classes().size() <= 12);
        for (Class<?> c : VolumeHouse.class.getDeclaredClasses()) {
            int modifiers = c.getModifiers();
            DUE.yes("rule 1: " + c.getSimpleName(), Modifier.isPrivate(modifiers) && Modifier.isStatic(modifiers));
            DUE.is("rule 2: classes inside " + c.getSimpleName(), c.getDeclaredClasses().length, 0);
        }
    }

    private static void fieldsOf(Class<?> c) {
        int held = 0;
        for (Field f : c.getDeclaredFields()) {
            String name = c.getSimpleName() + "." + f.getName();
            Class<?> type = f.getType();
            boolean fixed = Modifier.isStatic(f.getModifiers());
            held += fixed ? 0 : 1;
            DUE.yes("rule 5: " + name, !fixed || Modifier.isFinal(f.getModifiers()));
            boolean number = type == int.class || type == int[].class;
            DUE.yes("rules 3 and 5: " + name, number || !fixed && classes().contains(type));
        }
        DUE.yes("rule 11: at most twenty fields: " + c.getSimpleName(), held <= 20);
    }

    private static void methodsOf(Class<?> c) {
        Set<String> face = new TreeSet<>();
        for (Method m : VolumeHouse.class.getDeclaredMethods()) {
            if (Modifier.isPublic(m.getModifiers())) {
                face.add(m.getName());
            }
        }
        for (Method m : c.getDeclaredMethods()) {
            String name = c.getSimpleName() + "." + m.getName();
            DUE.yes("rule 11: at most seven parameters: " + name, m.getParameterCount() <= 7);
            boolean hidden = Modifier.isPrivate(m.getModifiers());
            DUE.yes("rule 1: " + name, hidden ? !face.contains(m.getName()) : c == VolumeHouse.class);
        }
    }
}
