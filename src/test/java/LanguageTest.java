import java.io.IOException;
import java.lang.reflect.Field;
import java.lang.reflect.Method;
import java.lang.reflect.Modifier;
import java.nio.file.Files;
import java.nio.file.Path;
import java.util.ArrayList;
import java.util.List;
import java.util.regex.Matcher;
import java.util.regex.Pattern;

/** Those rules of LANGUAGE.md that can be seen from the text of the program or from its members. */
public final class LanguageTest {
    private static final Path PROGRAM = Path.of("src/main/java/KingsBoard.java");
    private static final int MOST_LINES = 60;

    public static void main(String[] args) throws IOException {
        String code = withoutTexts(Files.readString(PROGRAM));
        words(code);
        library(code);
        lengths(code);
        List<Class<?>> classes = new ArrayList<>(List.of(KingsBoard.class.getDeclaredClasses()));
        classes.add(KingsBoard.class);
        Checks.says("rule 11: the file has at most some twelve classes");
        Checks.due("at most twelve", classes.size() <= 12, true);
        for (Class<?> each : classes) {
            members(each);
        }
        Checks.finish();
    }

    private static String withoutTexts(String source) {
        return source.replaceAll("(?s)/\\*.*?\\*/", "")
                .replaceAll("\"[^\"\n]*\"", "\"\"")
                .replaceAll("//[^\n]*", "");
    }

    private static void words(String code) {
        Checks.says("rules 1 to 10: what the program does without");
        String[] words = {
            "package", "import", "->", "::", "synchronized", "assert", "finally", "try", "catch", "yield",
            "hashCode", "equals", "toString", "instanceof", "protected", "volatile", "transient", "native",
        };
        for (String word : words) {
            boolean isName = Character.isLetter(word.charAt(0));
            String form = isName ? "\\b" + word + "\\b" : Pattern.quote(word);
            Checks.due("the program has " + word, Pattern.compile(form).matcher(code).find(), false);
        }
        Checks.due("a static initialiser", Pattern.compile("static\\s*\\{").matcher(code).find(), false);
    }

    private static void library(String code) {
        Checks.says("rule 4: the library: only what stands here");
        String allowed = "Math.abs Math.min Math.max Long.bitCount System.arraycopy";
        Matcher uses = Pattern.compile("\\b(Math|Long|Integer|System|Arrays|String)\\.\\w+").matcher(code);
        while (uses.find()) {
            Checks.due(uses.group() + " is allowed", (" " + allowed + " ").contains(" " + uses.group() + " "), true);
        }
        Checks.says("rule 6: throw new E(\"a written text\")");
        Matcher throwing = Pattern.compile("\\bthrow\\b[^;]*;").matcher(code);
        String form = "throw new (IllegalState|IllegalArgument|IndexOutOfBounds)Exception\\(\"\"\\);";
        while (throwing.find()) {
            Checks.due(throwing.group(), throwing.group().matches(form), true);
        }
    }

    private static void lengths(String code) {
        Checks.says("rule 11: methods stay short");
        Matcher bodies = Pattern.compile("(?m)^( {4}| {8})(?! )[^=;\n]*\\)[^=;\n]*\\{\n((?s).*?)^\\1\\}").matcher(code);
        while (bodies.find()) {
            Checks.due("a short body: " + bodies.group().lines().findFirst().orElse(""),
                    bodies.group(2).lines().count() <= MOST_LINES, true);
        }
    }

    private static void members(Class<?> each) {
        Checks.says("rules 1, 5 and 11: the members of " + each.getSimpleName());
        int fields = 0;
        for (Field field : each.getDeclaredFields()) {
            boolean isStatic = Modifier.isStatic(field.getModifiers());
            fields += isStatic ? 0 : 1;
            Checks.due(field + " is final, if it is static", !isStatic || Modifier.isFinal(field.getModifiers()), true);
        }
        Checks.due("at most twenty fields", fields <= 20, true);
        for (Method method : each.getDeclaredMethods()) {
            Checks.due(method + " has at most seven parameters", method.getParameterCount() <= 7, true);
        }
        if (each != KingsBoard.class) {
            Checks.due("it is static", Modifier.isStatic(each.getModifiers()), true);
            Checks.due("it is not public", Modifier.isPublic(each.getModifiers()), false);
        }
    }
}
