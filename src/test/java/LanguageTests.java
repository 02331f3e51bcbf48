import java.io.IOException;
import java.lang.reflect.Constructor;
import java.lang.reflect.Field;
import java.lang.reflect.Method;
import java.lang.reflect.Modifier;
import java.nio.file.Files;
import java.nio.file.Path;
import java.util.ArrayList;
import java.util.Arrays;
import java.util.List;
import java.util.Set;
import java.util.TreeSet;
import java.util.regex.Matcher;
import java.util.regex.Pattern;

/** What of LANGUAGE.md and of the document's face can be seen in the class and in its source's text. */
final class LanguageTests {
    private static final String FACE = """
        append(int) IllegalArgumentException IllegalStateException
        clearText()
        errorPosition()
        load() IllegalStateException
        about(int) IllegalArgumentException
        walkerOf(int,int) IndexOutOfBoundsException IllegalArgumentException
        streetOf(int,int) IndexOutOfBoundsException IllegalArgumentException
        cell(int,int) IndexOutOfBoundsException
        file(int) IndexOutOfBoundsException
        read(int,int) IndexOutOfBoundsException IllegalArgumentException
        walker(int) IllegalArgumentException IllegalStateException
        street(int,int,int,int) IllegalArgumentException IllegalStateException
        shift(int,int) IndexOutOfBoundsException IllegalArgumentException
        letter(int,int) IndexOutOfBoundsException IllegalArgumentException
        exchange(int,int) IndexOutOfBoundsException IllegalArgumentException IllegalStateException
        back()
        set(int,int) IllegalArgumentException
        ticks(int) IllegalArgumentException
        undo() IllegalStateException
        allIn()
        later(int,int) IllegalArgumentException
        bestRule()
        bestShift(int) IndexOutOfBoundsException
        bestExchange(int) IllegalArgumentException
        runScript(int,long) IllegalArgumentException
        simulate(long,int) IllegalArgumentException
        save(int) IndexOutOfBoundsException
        restore(int) IndexOutOfBoundsException IllegalStateException
        """;
    private static final String[] UNWANTED = {"import", "package", "protected", "->", "::", "finally", "catch", "try",
        "synchronized", "assert", "Exact", "volatile", "native", "transient", "var", "record", "getMessage",
        "equals", "hashCode", "toString", "Object", "Random", "Thread", "MAX_VALUE", "MIN_VALUE"};
    private static final Pattern METHOD = Pattern.compile("(?m)^( +)[^\\n;=]*\\)[^\\n;=]*\\{$");

    private LanguageTests() {
    }

    static void runAll(String source) {
        Checks.run("the face", LanguageTests::face);
        Checks.run("the classes inside", LanguageTests::classesInside);
        Checks.run("the source", () -> sourceText(withoutCommentsAndTexts(textOf(source))));
    }

    private static String textOf(String source) {
        try {
            return Files.readString(Path.of(source));
        } catch (IOException e) {
            Checks.fail("can't read " + source);
            return "";
        }
    }

    private static String withoutCommentsAndTexts(String text) {
        return text.replaceAll("(?s)/\\*.*?\\*/", "").replaceAll("//[^\\n]*", "")
            .replaceAll("\"[^\"\\n]*\"", "\"\"").replaceAll("'.'", "0");
    }

    private static void face() {
        Set<String> got = new TreeSet<>();
        for (Method method : PlacardWalkers.class.getDeclaredMethods()) {
            if (Modifier.isPublic(method.getModifiers())) {
                got.add(described(method));
                Checks.same("what " + method.getName() + " returns", method.getReturnType().getName(), "int");
            } else if (!method.isSynthetic()) {
                Checks.due(method.getName() + " is private", method.getModifiers() & Modifier.PRIVATE, Modifier.PRIVATE);
            }
        }
        Checks.same("the face", String.join("\n", got), String.join("\n", new TreeSet<>(FACE.lines().toList())));
        for (Field field : PlacardWalkers.class.getDeclaredFields()) {
            boolean isPrivate = Modifier.isPrivate(field.getModifiers());
            Checks.same(field.getName(), String.valueOf(isPrivate), String.valueOf(!field.getName().equals("NONE")));
        }
        Constructor<?>[] made = PlacardWalkers.class.getDeclaredConstructors();
        Checks.due("constructors", made.length, 1);
        Checks.due("its parameters", made[0].getParameterCount(), 0);
        Checks.due("it is public", made[0].getModifiers(), Modifier.PUBLIC);
        Checks.due("the class", PlacardWalkers.class.getModifiers(), Modifier.PUBLIC | Modifier.FINAL);
    }

    private static String described(Method method) {
        List<String> parameters = new ArrayList<>();
        for (Class<?> type : method.getParameterTypes()) {
            parameters.add(type.getName());
        }
        StringBuilder all = new StringBuilder(method.getName() + "(" + String.join(",", parameters) + ")");
        for (Class<?> thrown : method.getExceptionTypes()) {
            all.append(' ').append(thrown.getSimpleName());
        }
        return all.toString();
    }

    private static void classesInside() {
        Set<String> names = new TreeSet<>();
        for (String line : FACE.lines().toList()) {
            names.add(line.substring(0, line.indexOf('(')));
        }
        List<Class<?>> all = new ArrayList<>(Arrays.asList(PlacardWalkers.class.getDeclaredClasses()));
        if (all.size() > 11) {
            Checks.fail("there are " + all.size() + " classes inside");
        }
        for (Class<?> inside : all) {
            Checks.due(inside + " is static", inside.getModifiers() & Modifier.STATIC, Modifier.STATIC);
            Checks.due(inside + " is not public", inside.getModifiers() & Modifier.PUBLIC, 0);
            for (Method method : inside.getDeclaredMethods()) {
                if (names.contains(method.getName())) {
                    Checks.fail(method + " bears a name of the face");
                }
            }
        }
        all.add(PlacardWalkers.class);
        for (Class<?> each : all) {
            fieldsAndParameters(each);
        }
    }

    private static void fieldsAndParameters(Class<?> each) {
        int fields = 0;
        for (Field field : each.getDeclaredFields()) {
            if (!Modifier.isStatic(field.getModifiers())) {
                fields++;
            } else if (!Modifier.isFinal(field.getModifiers())) {
                Checks.fail(field + " is static and not final");
            }
        }
        if (fields > 20) {
            Checks.fail(each + " has " + fields + " fields");
        }
        for (Method method : each.getDeclaredMethods()) {
            if (method.getParameterCount() > 7) {
                Checks.fail(method + " has too many parameters");
            }
        }
    }

    private static void sourceText(String code) {
        for (String unwanted : UNWANTED) {
            String edge = Character.isLetter(unwanted.charAt(0)) ? "\\b" : "";
            if (Pattern.compile(edge + Pattern.quote(unwanted) + edge).matcher(code).find()) {
                Checks.fail("the source has " + unwanted);
            }
        }
        if (Pattern.compile("System\\.(?!arraycopy\\()").matcher(code).find()) {
            Checks.fail("the source uses System");
        }
        String thrown = "throw (?!new (IndexOutOfBounds|IllegalArgument|IllegalState)Exception\\(\"\"\\);)";
        if (Pattern.compile(thrown).matcher(code).find()) {
            Checks.fail("the source throws something else");
        }
        if (Pattern.compile("\\w+\\[(?!\\]|i\\]|MOST|LONGEST|4\\])").matcher(code).find()) {
            Checks.fail("the source uses an index outside at() and put()");
        }
        Matcher method = METHOD.matcher(code);
        while (method.find()) {
            int end = code.indexOf("\n" + method.group(1) + "}", method.start());
            long lines = code.substring(method.start(), Math.max(end, method.start())).lines().count();
            if (lines > 60) {
                Checks.fail("a method is too long: " + method.group());
            }
        }
    }
}
