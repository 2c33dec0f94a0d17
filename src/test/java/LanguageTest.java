import java.io.IOException;
import java.lang.reflect.Constructor;
import java.lang.reflect.Field;
import java.lang.reflect.Method;
import java.lang.reflect.Modifier;
import java.nio.charset.StandardCharsets;
import java.nio.file.Files;
import java.nio.file.Path;
import java.util.Arrays;
import java.util.HashSet;
import java.util.Set;
import java.util.TreeSet;
import java.util.regex.MatchResult;
import java.util.regex.Matcher;
import java.util.regex.Pattern;

/** The public face, and what can be read of the rules of LANGUAGE.md in the file itself. */
public final class LanguageTest {
    private static final String FILE = "src/main/java/MaxplusJunction.java";
    private static final String EXCEPTIONS = "(IllegalState|IllegalArgument|IndexOutOfBounds|Arithmetic"
        + "|UnsupportedOperation|NoSuchElement|Runtime)Exception";
    private static final String[] FACE = {
        "int period(int) IllegalArgumentException",
        "int departure(int, int, int) IllegalArgumentException, IllegalStateException",
        "int move(int, int) IndexOutOfBoundsException, IllegalArgumentException",
        "int arc(int, int, int, int, int) IndexOutOfBoundsException, IllegalArgumentException, "
            + "IllegalStateException",
        "int riders(int, int, boolean) IndexOutOfBoundsException, IllegalArgumentException, "
            + "IllegalStateException",
        "int pair(int, int) IndexOutOfBoundsException, IllegalArgumentException, IllegalStateException",
        "boolean live(int, boolean) IndexOutOfBoundsException, IllegalStateException",
        "int make() IllegalStateException",
        "int lay(int, int) IllegalArgumentException, IllegalStateException",
        "int horizon(int) IllegalArgumentException",
        "int delay(int, int, int) IndexOutOfBoundsException, IllegalArgumentException",
        "int clear() ",
        "int storm(int, int) IllegalArgumentException",
        "int decide() ",
        "int ofDeparture(int, int) IndexOutOfBoundsException, IllegalArgumentException",
        "int ofArc(int, int) IndexOutOfBoundsException, IllegalArgumentException",
        "int rings(int) IllegalArgumentException",
        "int healing(int, int) IndexOutOfBoundsException",
        "int feels(int, int) IndexOutOfBoundsException, IllegalArgumentException",
        "int free(int, int) IndexOutOfBoundsException, IllegalArgumentException",
        "int power(int, int, int) IndexOutOfBoundsException, IllegalArgumentException",
        "int at(int, int, int) IndexOutOfBoundsException, IllegalArgumentException",
        "int day(int) IllegalArgumentException",
        "String board(int) IndexOutOfBoundsException",
        "int ride(int, int, int) IndexOutOfBoundsException",
        "int ofLine(int, int) IndexOutOfBoundsException, IllegalArgumentException",
        "int crews(int) IllegalArgumentException",
        "int best(int) IllegalArgumentException",
        "int without(int) IndexOutOfBoundsException",
        "int wave(int, int, int) IndexOutOfBoundsException, IllegalArgumentException",
        "int wouldMake(int) IllegalArgumentException, IllegalStateException",
        "int heals(int) IllegalArgumentException",
        "boolean isSound() ",
        "long digest() "};
    /** A rule of LANGUAGE.md by its number, and what must not stand in the file by it. */
    private static final String[][] FORBIDDEN = {
        {"1", "\\bprotected\\b"},
        {"2", "(?m)^(?!\\s*(case|default)\\b).*->"}, {"2", "::"},
        {"3", "\\[\\]\\[\\]\\[\\]"}, {"3", "\\bObject\\b"},
        {"4", "Exact\\("}, {"4", "\\bSystem\\.(?!arraycopy\\()"},
        {"4", "\\bArrays\\.(?!(copyOf|copyOfRange|fill)\\()"},
        {"4", "\\bMath\\.(?!(abs|max|min|floorDiv|floorMod)\\()"},
        {"5", "static\\s*\\{"},
        {"6", "\\b(finally|synchronized|assert)\\b"}, {"6", "\\btry\\s*\\("}, {"6", "\\bgetMessage\\b"},
        {"6", "\\bextends \\w*Exception\\b"}, {"6", "\\b(equals|hashCode|toString)\\([^()]*\\) *\\{"},
        {"6", "\\bcatch \\((?!" + EXCEPTIONS + " )"},
        {"6", "\\bthrow (?!new " + EXCEPTIONS + "\\((\"[^\"]*\")?\\);)"},
        {"10", "\" *\\+|\\+ *\""},
        {"13", "\\b(nanoTime|currentTimeMillis|Random|Thread|Runtime|File|Scanner|getenv|getProperty)\\b"}};

    public static void main(String[] args) throws IOException {
        face();
        String text = Files.readString(Path.of(FILE), StandardCharsets.ISO_8859_1);
        String code = withoutComments(text);
        imports(code);
        for (String[] forbidden : FORBIDDEN) {
            String found = Pattern.compile(forbidden[1]).matcher(code).results().map(MatchResult::group).findFirst()
                    .orElse("nothing");
            Check.due("against rule " + forbidden[0] + ", " + forbidden[1], "nothing", found);
        }
        texts(code);
        lengths(code);
        Check.end("LanguageTest");
    }

    /** Rules 1, 2, 5 and 11. */
    private static void face() {
        Class<?> type = MaxplusJunction.class;
        Check.due("public and final", Modifier.PUBLIC | Modifier.FINAL, type.getModifiers());
        Constructor<?>[] constructors = type.getDeclaredConstructors();
        Check.due("constructors", 1, constructors.length);
        Check.due("public constructor()", "public MaxplusJunction()", constructors[0].toString());
        Set<String> want = new TreeSet<>(Arrays.asList(FACE));
        Set<String> got = new TreeSet<>();
        Set<String> names = new HashSet<>();
        for (Method method : type.getDeclaredMethods()) {
            if (!Modifier.isPrivate(method.getModifiers())) {
                got.add(signature(method));
                names.add(method.getName());
                Check.due(method + " is public only", Modifier.PUBLIC, method.getModifiers());
            }
        }
        Check.due("the face", want, got);
        for (Field field : type.getDeclaredFields()) {
            Check.due(field + " is private", true, Modifier.isPrivate(field.getModifiers()));
        }
        Check.due("at most some twelve classes", true, 1 + type.getDeclaredClasses().length <= 14);
        inside(type, names);
        for (Class<?> inner : type.getDeclaredClasses()) {
            Check.due(inner + " is static", true, Modifier.isStatic(inner.getModifiers()));
            Check.due(inner + " is not public", false, Modifier.isPublic(inner.getModifiers()));
            inside(inner, names);
        }
    }

    private static void inside(Class<?> type, Set<String> names) {
        int fields = 0;
        for (Field field : type.getDeclaredFields()) {
            if (Modifier.isStatic(field.getModifiers())) {
                Check.due(field + " is final", true, Modifier.isFinal(field.getModifiers()));
            } else {
                fields++;
            }
        }
        Check.due(type + " has at most some twenty fields", true, fields <= 22);
        for (Method method : type.getDeclaredMethods()) {
            Check.due(method + " has at most seven parameters", true, method.getParameterCount() <= 7);
            Check.due(method + " bears the name of a public one", false,
                    Modifier.isPrivate(method.getModifiers()) && names.contains(method.getName()));
        }
    }

    private static String signature(Method method) {
        return method.getReturnType().getSimpleName() + " " + method.getName() + "("
                + String.join(", ", names(method.getParameterTypes())) + ") "
                + String.join(", ", names(method.getExceptionTypes()));
    }

    private static String[] names(Class<?>[] types) {
        return Arrays.stream(types).map(Class::getSimpleName).toArray(String[]::new);
    }

    private static String withoutComments(String text) {
        return text.replaceAll("(?s)/\\*.*?\\*/", "").replaceAll("//[^\n]*", "");
    }

    private static void imports(String code) {
        Matcher imported = Pattern.compile("import ([^;]*);").matcher(code);
        while (imported.find()) {
            Check.due("an import", true, Set.of("java.util.Arrays", "java.util.ArrayList", "java.util.List",
                    "java.util.Iterator", "java.util.NoSuchElementException").contains(imported.group(1)));
        }
        Check.due("no package", false, code.contains("package "));
    }

    /** Rule 4: the signs of constants are 1 to 127. */
    private static void texts(String code) {
        Matcher constant = Pattern.compile("\"[^\"\n]*\"|'[^\n]{1,6}?'").matcher(code);
        while (constant.find()) {
            Check.due("the signs of " + constant.group(), true, constant.group().chars().allMatch(c -> c > 0 && c < 128));
        }
    }

    /** Rule 11. Methods of a class begin by four blanks and end so, those of the classes inside it by eight. */
    private static void lengths(String code) {
        String[] lines = code.split("\n");
        for (int begin = 0; begin < lines.length; begin++) {
            Matcher head = Pattern.compile("^( {4}| {8})[^ }].*[({]$").matcher(lines[begin]);
            if (!head.find() || lines[begin].contains(" class ")) {
                continue;
            }
            int end = begin + 1;
            while (end < lines.length && !lines[end].startsWith(head.group(1) + "}")) {
                end++;
            }
            Check.due("line " + begin + " begins a method of at most some sixty lines", true, end - begin <= 66);
        }
    }
}
