import java.lang.reflect.Constructor;
import java.lang.reflect.Field;
import java.lang.reflect.Method;
import java.lang.reflect.Modifier;
import java.util.Set;
import java.util.TreeSet;

/** The class shows the document's face, and nothing else that is not private. */
public final class FaceTest {
    public static void main(String[] args) {
        Check.due("the class", Modifier.toString(KeySums.class.getModifiers()), "public final");
        Check.due("the members", shown(), Set.of(
                "public static final int KeySums.NONE",
                "public KeySums()",
                "public boolean KeySums.feed(int,int,int,int,int)",
                "public boolean KeySums.end(int)",
                "public int KeySums.add()",
                "public int KeySums.fill(int,int)",
                "public int KeySums.key()",
                "public int KeySums.sum(boolean)",
                "public int KeySums.sumAt(int)"));
        Check.due("the class above", KeySums.class.getSuperclass(), Object.class);
        Check.due("interfaces", KeySums.class.getInterfaces().length, 0);
        for (Class<?> inside : KeySums.class.getDeclaredClasses()) {
            hidden(inside);
        }
        Check.finish();
    }

    private static Set<String> shown() {
        Set<String> members = new TreeSet<>();
        for (Field field : KeySums.class.getDeclaredFields()) {
            keep(members, field.getModifiers(), field.toString());
        }
        for (Constructor<?> constructor : KeySums.class.getDeclaredConstructors()) {
            keep(members, constructor.getModifiers(), constructor.toString());
        }
        for (Method method : KeySums.class.getDeclaredMethods()) {
            keep(members, method.getModifiers(), method.toString());
        }
        return members;
    }

    private static void hidden(Class<?> inside) {
        int modifiers = inside.getModifiers();
        boolean shown = Modifier.isPublic(modifiers) || Modifier.isProtected(modifiers);
        Check.due(inside.getName() + " is shown", shown, false);
        Check.due(inside.getName() + " is static", Modifier.isStatic(modifiers), true);
    }

    private static void keep(Set<String> members, int modifiers, String text) {
        if (!Modifier.isPrivate(modifiers)) {
            members.add(text);
        }
    }
}
