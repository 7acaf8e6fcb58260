import java.lang.reflect.Constructor;
import java.lang.reflect.Field;
import java.lang.reflect.Method;
import java.lang.reflect.Modifier;
import java.util.Arrays;
import java.util.TreeSet;

/** The public face of the document, and no member more that others could see. */
public final class FaceTest {
    public static void main(String[] args) {
        Check check = new Check();
        TreeSet<String> seen = new TreeSet<>();
        TreeSet<String> hidden = new TreeSet<>();
        for (Method method : LinkText.class.getDeclaredMethods()) {
            if (Modifier.isPrivate(method.getModifiers())) {
                hidden.add(method.getName());
            } else {
                seen.add(method.toString().replace("LinkText.", ""));
            }
        }
        for (Constructor<?> constructor : LinkText.class.getDeclaredConstructors()) {
            seen.add(constructor.toString());
        }
        for (Field field : LinkText.class.getDeclaredFields()) {
            if (!Modifier.isPrivate(field.getModifiers())) {
                seen.add(field.toString());
            }
        }
        check.due("the face", seen.toString(), new TreeSet<>(Arrays.asList(
            "public LinkText()",
            "public int feed(int,int,int,int,int)",
            "public int read(int)",
            "public int fault(int)",
            "public int line(int,int)",
            "public long number(int,int)",
            "public int print(int)",
            "public int printed(int)",
            "public int wipe(boolean)")).toString());
        check.due("the class's modifiers", Modifier.toString(LinkText.class.getModifiers()), "public final");
        for (String name : Arrays.asList("feed", "read", "fault", "line", "number", "print", "printed", "wipe")) {
            check.due("a private method " + name, hidden.contains(name) ? 1 : 0, 0);
        }
        check.end();
    }
}
