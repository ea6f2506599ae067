import java.lang.reflect.Constructor;
import java.lang.reflect.Field;
import java.lang.reflect.Method;
import java.lang.reflect.Modifier;
import java.util.Map;
import java.util.TreeMap;
import java.util.TreeSet;

/** The public face is the document's, and nothing else can be seen of the class. */
public final class FaceTest {
    private static final Map<String, String> FACE = new TreeMap<>(Map.ofEntries(
            Map.entry("type", "int(long,int) IllegalArgumentException IllegalStateException"),
            Map.entry("read", "int()"),
            Map.entry("place", "int()"),
            Map.entry("write", "int()"),
            Map.entry("written", "int(int) IndexOutOfBoundsException"),
            Map.entry("man", "int(int) IndexOutOfBoundsException"),
            Map.entry("about", "int(int) IllegalArgumentException"),
            Map.entry("state", "int()"),
            Map.entry("attacked", "boolean(int,int) IndexOutOfBoundsException IllegalArgumentException"),
            Map.entry("moves", "int()"),
            Map.entry("move", "int(int,int) IndexOutOfBoundsException IllegalArgumentException"),
            Map.entry("play", "int(int,int,int) IndexOutOfBoundsException IllegalStateException"),
            Map.entry("back", "int() IllegalStateException"),
            Map.entry("ways", "int(int) IllegalArgumentException"),
            Map.entry("worth", "int()"),
            Map.entry("search", "int(int) IllegalArgumentException"),
            Map.entry("chosen", "int(int) IllegalArgumentException")));

    public static void main(String[] args) {
        Checks.says("the public face");
        Map<String, String> seen = new TreeMap<>();
        TreeSet<String> namedAgain = new TreeSet<>();
        for (Method method : KingsBoard.class.getDeclaredMethods()) {
            if (!Modifier.isPrivate(method.getModifiers())) {
                seen.put(method.getName(), form(method));
            } else if (FACE.containsKey(method.getName())) {
                namedAgain.add(method.getName());
            }
        }
        for (Class<?> inner : KingsBoard.class.getDeclaredClasses()) {
            for (Method method : inner.getDeclaredMethods()) {
                if (FACE.containsKey(method.getName())) {
                    namedAgain.add(inner.getSimpleName() + "." + method.getName());
                }
            }
        }
        Checks.due("the methods", seen.toString(), FACE.toString());
        Checks.due("other methods of these names", namedAgain.toString(), "[]");
        Checks.due("the class is public and final", KingsBoard.class.getModifiers(), Modifier.PUBLIC | Modifier.FINAL);
        Checks.due("the fields seen", fieldsSeen().toString(), "[NONE]");
        Constructor<?>[] constructors = KingsBoard.class.getDeclaredConstructors();
        Checks.due("constructors", constructors.length, 1);
        Checks.due("its parameters", constructors[0].getParameterCount(), 0);
        Checks.due("it is public", constructors[0].getModifiers(), Modifier.PUBLIC);
        Checks.due("NONE", KingsBoard.NONE, -1);
        Checks.finish();
    }

    private static TreeSet<String> fieldsSeen() {
        TreeSet<String> names = new TreeSet<>();
        for (Field field : KingsBoard.class.getDeclaredFields()) {
            if (!Modifier.isPrivate(field.getModifiers())) {
                names.add(field.getName());
            }
        }
        return names;
    }

    private static String form(Method method) {
        StringBuilder text = new StringBuilder(method.getReturnType().getName()).append("(");
        for (Class<?> parameter : method.getParameterTypes()) {
            text.append(text.charAt(text.length() - 1) == '(' ? "" : ",").append(parameter.getName());
        }
        text.append(")");
        for (Class<?> thrown : method.getExceptionTypes()) {
            text.append(" ").append(thrown.getSimpleName());
        }
        return text.toString();
    }
}
