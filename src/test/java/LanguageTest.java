import java.io.IOException;
import java.lang.reflect.Constructor;
import java.lang.reflect.Field;
import java.lang.reflect.Method;
import java.lang.reflect.Modifier;
import java.nio.file.Files;
import java.nio.file.Path;
import java.util.Arrays;
import java.util.List;
import java.util.Set;
import java.util.TreeSet;
import java.util.regex.Matcher;
import java.util.regex.Pattern;
import java.util.stream.Collectors;

/** The face of the document, and what LANGUAGE.md rules out as far as a look at the source and the class tells. */
public final class LanguageTest {
    private static final Path SOURCE = Path.of("src/main/java/TerminalWeir.java");
    private static final List<String> FACE = List.of(
            "int feed(int)", "int type(int)", "int wipe()", "int feedAll()", "int key(int)", "boolean echo(boolean)",
            "boolean isHeld()", "int signals()", "int rings()", "int take()", "int sent()", "int size(int, int)",
            "int width()", "int height()", "int at(int, int)", "int style(int, int)", "int mark(int, int)",
            "boolean isWrapped(int)", "int row()", "int column()", "boolean isWaiting()", "boolean isShown()",
            "boolean isSecond()", "int pen()", "boolean hasTab(int)", "int region(boolean)", "boolean isSet(int)",
            "char title(int)", "int back()", "int backAt(int, int)", "int select(char, int, int, int, int)",
            "int selected(int)", "long keep()", "int output()", "int outputAt(int)", "int filledBits()",
            "double meanLength()", "long checksum()", "boolean isSound()");

    private LanguageTest() {
    }

    public static void main(String[] arguments) throws IOException {
        String source = Files.readString(SOURCE);
        String bare = withoutCommentsAndTexts(source);
        face();
        classesInside();
        signs(source);
        words(bare);
        exceptions(bare);
        methodLengths(bare);
        Check.end();
    }

    private static void face() {
        Class<?> type = TerminalWeir.class;
        Check.due("1 public and final", Modifier.isPublic(type.getModifiers()) && Modifier.isFinal(type.getModifiers()),
                true);
        Constructor<?>[] constructors = type.getDeclaredConstructors();
        Check.due("1 one constructor", constructors.length, 1);
        Check.due("1 public, without parameters",
                Modifier.isPublic(constructors[0].getModifiers()) && constructors[0].getParameterCount() == 0, true);
        Set<String> shown = Arrays.stream(type.getDeclaredMethods())
                .filter(method -> !Modifier.isPrivate(method.getModifiers()))
                .map(LanguageTest::signature).collect(Collectors.toCollection(TreeSet::new));
        Check.due("1 the methods of the face and no others", shown, new TreeSet<>(FACE));
        for (Field field : type.getDeclaredFields()) {
            Check.due("1 private field " + field.getName(), Modifier.isPrivate(field.getModifiers()), true);
        }
    }

    private static String signature(Method method) {
        return method.getReturnType().getSimpleName() + " " + method.getName() + "("
                + Arrays.stream(method.getParameterTypes()).map(Class::getSimpleName)
                        .collect(Collectors.joining(", ")) + ")";
    }

    private static void classesInside() {
        Set<String> names = FACE.stream().map(line -> line.replaceAll("^\\w+ (\\w+)\\(.*", "$1"))
                .collect(Collectors.toSet());
        Class<?>[] inside = TerminalWeir.class.getDeclaredClasses();
        Check.due("11 twelve classes at most", inside.length + 1 <= 12, true);
        for (Class<?> type : inside) {
            Check.due("2 static " + type.getSimpleName(), Modifier.isStatic(type.getModifiers()), true);
            Check.due("11 fields of " + type.getSimpleName(), Arrays.stream(type.getDeclaredFields())
                    .filter(field -> !Modifier.isStatic(field.getModifiers())).count() <= 20, true);
            for (Field field : type.getDeclaredFields()) {
                boolean isStatic = Modifier.isStatic(field.getModifiers());
                Check.due("5 final " + field, !isStatic || Modifier.isFinal(field.getModifiers()), true);
            }
            for (Method method : type.getDeclaredMethods()) {
                Check.due("1 a name of its own " + method, names.contains(method.getName()), false);
                Check.due("11 parameters of " + method, method.getParameterCount() <= 7, true);
                Check.due("4 no helper of the compiler " + method, method.isSynthetic(), false);
            }
        }
        for (Method method : TerminalWeir.class.getDeclaredMethods()) {
            boolean isPrivate = Modifier.isPrivate(method.getModifiers());
            Check.due("1 a name of its own " + method, isPrivate && names.contains(method.getName()), false);
        }
    }

    private static void signs(String source) {
        Check.due("4 signs from 1 to 127", source.chars().allMatch(sign -> sign == 10 || sign >= 32 && sign < 127),
                true);
        Check.due("4 one import", source.lines().filter(line -> line.startsWith("import ")).toList(),
                List.of("import java.util.NoSuchElementException;"));
        Check.due("1 no package", source.lines().anyMatch(line -> line.startsWith("package ")), false);
    }

    private static String withoutCommentsAndTexts(String source) {
        return source.replaceAll("(?s)/\\*.*?\\*/", "").replaceAll("//[^\n]*", "")
                .replaceAll("\"(\\\\.|[^\"\\\\])*\"", "TEXT").replaceAll("'(\\\\.|[^'\\\\])'", "SIGN");
    }

    private static void words(String bare) {
        String[] ruledOut = {"->", "::", "\\bassert\\b", "\\bfinally\\b", "\\bsynchronized\\b", "\\bvar\\b", "\\btry\\b",
            "\\bcatch\\b", "\\bequals\\b", "\\bhashCode\\b", "\\btoString\\b", "\\bObject\\b", "\\bthread\\b",
            "TEXT *\\+", "\\+ *TEXT", "\\bSystem\\b", "\\bFloat\\b", "\\bDouble\\b", "\\bLong\\b", "\\bInteger\\b",
            "Exact\\b", "\\bprotected\\b", "while *\\(true\\)", "for *\\(;;\\)", "static *\\{", "@\\w+",
            "\\bnull\\b", "\\bgetMessage\\b", "\\bprint", "java\\.(?!util\\.NoSuchElementException)"};
        for (String pattern : ruledOut) {
            Matcher found = Pattern.compile(pattern).matcher(bare);
            Check.due("no " + pattern, found.find() ? found.group() : "none", "none");
        }
        Set<String> called = new TreeSet<>();
        Matcher math = Pattern.compile("\\bMath\\.(\\w+)").matcher(bare);
        while (math.find()) {
            called.add(math.group(1));
        }
        called.removeAll(Set.of("max", "min", "abs", "floorMod", "floorDiv"));
        Check.due("4 of Math", called, Set.of());
    }

    private static void exceptions(String bare) {
        Matcher thrown = Pattern.compile("throw ([^;]*);").matcher(bare);
        while (thrown.find()) {
            Check.due("6 thrown " + thrown.group(1), thrown.group(1).matches(
                    "new (IllegalStateException|IllegalArgumentException|IndexOutOfBoundsException"
                            + "|UnsupportedOperationException|NoSuchElementException)\\(TEXT\\)"), true);
        }
    }

    private static void methodLengths(String bare) {
        String[] lines = bare.split("\n");
        for (int i = 0; i < lines.length; i++) {
            Matcher head = Pattern.compile("^( {4}| {8})(?:\\w.*)\\(.*\\{$").matcher(lines[i]);
            boolean isHead = head.find() && !lines[i].contains(" class ")
                    && !lines[i].trim().matches("(if|for|while|switch|\\}).*");
            if (isHead) {
                int end = i;
                while (end < lines.length && !lines[end].equals(head.group(1) + "}")) {
                    end++;
                }
                Check.due("11 lines of " + lines[i].trim(), end - i < 60, true);
            }
        }
    }
}
