import java.lang.reflect.Constructor;
import java.lang.reflect.Field;
import java.lang.reflect.Method;
import java.lang.reflect.Modifier;
import java.util.Arrays;
import java.util.Set;
import java.util.TreeSet;
import java.util.stream.Collectors;

/** The public face: every member of the document's code block, and none beside. */
public final class FaceTest {
    private static final Set<String> FACE = new TreeSet<>(Arrays.asList(
        "public static final int NONE",
        "public ProsePages()",
        "public int begin(int,int) IllegalStateException,IllegalArgumentException",
        "public int end()",
        "public int say(int,int,int,int,int) IllegalArgumentException,IllegalStateException",
        "public void clear()",
        "public int pages(int,int) IllegalArgumentException,IllegalStateException",
        "public int cell(int,int,int)",
        "public int page(int,int)",
        "public int line(int,int)",
        "public int find(int)",
        "public int node(int,int)",
        "public int about(int)"));

    public static void main(String[] args) {
        Check.due("the class", Modifier.toString(ProsePages.class.getModifiers()), "public final");
        Check.due("its members", seen(), FACE);
        Check.due("NONE", ProsePages.NONE, -1);
        for (Class<?> inside : ProsePages.class.getDeclaredClasses()) {
            int modifiers = inside.getModifiers();
            Check.due(inside + " is static and not public", Modifier.isStatic(modifiers) && !Modifier.isPublic(modifiers)
                && !Modifier.isProtected(modifiers), true);
        }
        Check.done();
    }

    private static Set<String> seen() {
        Set<String> members = new TreeSet<>();
        for (Field field : ProsePages.class.getDeclaredFields()) {
            if (!Modifier.isPrivate(field.getModifiers())) {
                members.add(Modifier.toString(field.getModifiers()) + " " + field.getType() + " " + field.getName());
            }
        }
        for (Constructor<?> made : ProsePages.class.getDeclaredConstructors()) {
            members.add(Modifier.toString(made.getModifiers()) + " ProsePages" + names(made.getParameterTypes(), "(", ")"));
        }
        for (Method method : ProsePages.class.getDeclaredMethods()) {
            if (!Modifier.isPrivate(method.getModifiers())) {
                members.add(Modifier.toString(method.getModifiers()) + " " + method.getReturnType() + " " + method.getName()
                    + names(method.getParameterTypes(), "(", ")")
                    + (method.getExceptionTypes().length == 0 ? "" : names(method.getExceptionTypes(), " ", "")));
            }
        }
        return members;
    }

    private static String names(Class<?>[] types, String before, String behind) {
        return Arrays.stream(types).map(Class::getSimpleName).collect(Collectors.joining(",", before, behind));
    }
}
