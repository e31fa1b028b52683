import java.io.IOException;
import java.lang.reflect.Constructor;
import java.lang.reflect.Field;
import java.lang.reflect.Method;
import java.lang.reflect.Modifier;
import java.nio.charset.StandardCharsets;
import java.nio.file.Files;
import java.nio.file.Path;
import java.util.Arrays;
import java.util.Set;
import java.util.TreeSet;
import java.util.regex.Matcher;
import java.util.regex.Pattern;

/** The face of the class, and what LANGUAGE.md rules out, as far as a text search can tell. */
public final class LanguageTest {
    private static final Set<String> FACE = Set.of(
        "long row(int,int,int)", "long set(int,int,int)", "long copy(int,int,int,int,int)",
        "long drop(int)", "long feed(long,int)", "long tongue()", "int fault()",
        "long put(int,long)", "long say(int,int,int,int)", "long said(int)", "long apart(int,int)",
        "long both(int,int,int)", "long heard(int,int)", "long dealt(int,int,int,int)",
        "long secret(int,int)", "long signed(int,int)", "long plus(int,int)", "long same(int)",
        "long image(int)", "long restore(int)", "long kind(int)", "long as(int,int)",
        "long ask(int,int)", "int trace(int)", "long count(int)", "int status()");
    private static final Set<Class<?>> CONSTANTS = Set.of(int.class, long.class, boolean.class, char.class,
        String.class, int[].class, long[].class, char[].class, byte[].class);

    public static void main(String[] args) throws IOException {
        face();
        constants();
        classesInside();
        String source = Files.readString(Path.of(args[0]), StandardCharsets.ISO_8859_1);
        String code = source.replaceAll("(?s)/\\*.*?\\*/", "").replaceAll("//[^\n]*", "");
        forbiddenWords(code);
        imports(code);
        methodsAreShort(code);
        Checks.end();
    }

    private static void face() {
        Class<?> c = SaidByTimes.class;
        Checks.dueTrue("the class is public and final",
            Modifier.isPublic(c.getModifiers()) && Modifier.isFinal(c.getModifiers()));
        Checks.dueTrue("it stands in no package", c.getPackageName().isEmpty());
        Set<String> shown = new TreeSet<>();
        for (Method m : c.getDeclaredMethods()) {
            if (!Modifier.isPrivate(m.getModifiers()) && !m.isSynthetic()) {
                String types = Arrays.toString(Arrays.stream(m.getParameterTypes())
                    .map(Class::getName).toArray()).replaceAll("[\\[\\] ]", "");
                shown.add(m.getReturnType().getName() + " " + m.getName() + "(" + types + ")");
                Checks.dueTrue("public, not static: " + m, m.getModifiers() == Modifier.PUBLIC);
            }
        }
        Checks.dueTrue("the public methods are the document's: " + shown, shown.equals(FACE));
        Set<String> fields = new TreeSet<>();
        for (Field f : c.getDeclaredFields()) {
            if (!Modifier.isPrivate(f.getModifiers()) && !f.isSynthetic()) {
                fields.add(f.getType() + " " + f.getName());
            }
        }
        Checks.dueTrue("the constants are the document's: " + fields,
            fields.equals(Set.of("int NONE", "long NOT")));
        Constructor<?>[] made = c.getDeclaredConstructors();
        Checks.dueTrue("one public constructor without arguments",
            made.length == 1 && made[0].getModifiers() == Modifier.PUBLIC && made[0].getParameterCount() == 0);
    }

    private static void constants() {
        Checks.due("NONE", SaidByTimes.NONE, -1000000);
        Checks.due("NOT", SaidByTimes.NOT, -9000000000000000000L);
    }

    private static void classesInside() {
        Class<?>[] inside = SaidByTimes.class.getDeclaredClasses();
        Checks.dueTrue("some twelve classes", inside.length <= 13);
        checkMembers(SaidByTimes.class);
        for (Class<?> c : inside) {
            Checks.dueTrue("static: " + c, Modifier.isStatic(c.getModifiers()));
            Checks.dueTrue("not public: " + c, (c.getModifiers() & (Modifier.PUBLIC | Modifier.PROTECTED)) == 0);
            checkMembers(c);
        }
    }

    private static void checkMembers(Class<?> c) {
        for (Method m : c.getDeclaredMethods()) {
            boolean takesAName = FACE.stream().anyMatch(f -> f.contains(" " + m.getName() + "("));
            Checks.dueTrue("a private method with a name of the face: " + m,
                c != SaidByTimes.class || !Modifier.isPrivate(m.getModifiers()) || !takesAName);
            Checks.dueTrue("seven parameters at most: " + m, m.getParameterCount() <= 7);
        }
        int fields = 0;
        for (Field f : c.getDeclaredFields()) {
            if (Modifier.isStatic(f.getModifiers())) {
                Class<?> type = f.getType();
                boolean ofAnEnum = type.isEnum() || type.isArray() && type.getComponentType().isEnum();
                Checks.dueTrue("final: " + f, Modifier.isFinal(f.getModifiers()));
                Checks.dueTrue("a constant's type: " + f, CONSTANTS.contains(type) || ofAnEnum);
            } else {
                fields++;
            }
        }
        Checks.dueTrue("some twenty fields: " + c, fields <= 22);
    }

    private static void forbiddenWords(String code) {
        String[] words = {"throw", "throws", "try", "catch", "finally", "synchronized", "assert", "package",
            "protected", "System\\.(?!arraycopy)\\w+", "Thread", "Runtime", "Random", "File", "Math\\.random",
            "equals\\(Object", "hashCode", "toString\\(\\) \\{", "\\w+Exact", "Object"};
        for (String word : words) {
            Checks.dueTrue("a word that is ruled out: " + word, !Pattern.compile("\\b" + word + "\\b").matcher(code).find());
        }
        String withoutCases = code.replaceAll("(case [^;{}>]*|default ?)->", "");
        Checks.dueTrue("no lambda", !withoutCases.contains("->"));
        Checks.dueTrue("no method reference", !code.contains("::"));
        Checks.dueTrue("no text joined by +", !Pattern.compile("\"\\s*\\+|\\+\\s*\"").matcher(code).find());
        Checks.dueTrue("no loop without a bound", !Pattern.compile("while \\(true\\)|for \\(;;\\)").matcher(code).find());
        Checks.dueTrue("all signs are 10 or 32 to 126", code.chars().allMatch(s -> s == 10 || s >= 32 && s <= 126));
    }

    private static void imports(String code) {
        Matcher m = Pattern.compile("(?m)^\\s*import\\s+([^;]*);").matcher(code);
        while (m.find()) {
            Checks.dueTrue("an import that is ruled out: " + m.group(1),
                m.group(1).matches("java\\.util\\.(ArrayList|List|Arrays|Iterator)"));
        }
    }

    private static void methodsAreShort(String code) {
        Matcher method = Pattern.compile("(?m)^( {4}| {8})(?! )"
            + "[\\w\\[\\] ]+\\([^;]*?\\) \\{\n(?s:.*?)^\\1\\}").matcher(code);
        int found = 0;
        while (method.find()) {
            found++;
            long lines = method.group().chars().filter(s -> s == '\n').count() + 1;
            Checks.dueTrue("some sixty lines: " + method.group().split("\n")[0], lines <= 65);
        }
        Checks.dueTrue("the search finds methods", found >= FACE.size());
    }
}
