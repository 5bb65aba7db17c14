import java.lang.reflect.Constructor;
import java.lang.reflect.Field;
import java.lang.reflect.Method;
import java.lang.reflect.Modifier;
import java.util.Arrays;
import java.util.Set;
import java.util.TreeSet;

/** The class shows the document's constants, constructor and methods, and no more. */
public final class FaceTest {
    private static final String OUT = "IndexOutOfBoundsException ";
    private static final String NONE_SUCH = "NoSuchElementException ";
    private static final String BAD = "IllegalArgumentException ";
    private static final String STATE = "IllegalStateException ";
    private static final String OTHER = "UnsupportedOperationException ";
    private static final Set<String> FACE = new TreeSet<>(Arrays.asList(
            "static final int NONE", "PointedWords()",
            "int add(int,long) ", "boolean change(int,int,long) ", "boolean cut(int,int) ",
            "int words(int) ", "long word(int,int) ", "boolean budget(int) ",
            "int open() " + OUT + NONE_SUCH + BAD + STATE, "int left() ",
            "int go(int,int) " + NONE_SUCH + OTHER + OUT + STATE + BAD,
            "int element(int,int) " + NONE_SUCH + OTHER + OUT + STATE,
            "int about(int,int) " + NONE_SUCH + OUT,
            "long data(int,int) " + NONE_SUCH + OTHER + OUT,
            "int form() " + OUT + NONE_SUCH + BAD + STATE,
            "long formed(int) ", "boolean adopt() ", "boolean keep() ", "boolean same() "));
    private static final Checks checks = new Checks();

    public static void main(String[] args) {
        checks.due("the face", face(), FACE);
        checks.due("public and final", PointedWords.class.getModifiers(),
                Modifier.PUBLIC | Modifier.FINAL);
        checks.due("names that are both public and private", namesTakenTwice(), new TreeSet<>());
        for (Class<?> inside : PointedWords.class.getDeclaredClasses()) {
            int modifiers = inside.getModifiers();
            checks.due(inside + " is not seen outside",
                    Modifier.isPublic(modifiers) || Modifier.isProtected(modifiers), false);
            checks.due(inside + " is static", Modifier.isStatic(modifiers), true);
        }
        checks.end();
    }

    private static Set<String> face() {
        Set<String> seen = new TreeSet<>();
        for (Field field : PointedWords.class.getDeclaredFields()) {
            if (!Modifier.isPrivate(field.getModifiers())) {
                seen.add(Modifier.toString(field.getModifiers()).replace("public ", "") + " "
                        + field.getType() + " " + field.getName());
            }
        }
        for (Constructor<?> constructor : PointedWords.class.getDeclaredConstructors()) {
            seen.add("PointedWords" + inBrackets(constructor.getParameterTypes()));
        }
        for (Method method : PointedWords.class.getDeclaredMethods()) {
            if (!Modifier.isPrivate(method.getModifiers()) && !method.isSynthetic()) {
                seen.add(signature(method));
            }
        }
        return seen;
    }

    private static String signature(Method method) {
        StringBuilder text = new StringBuilder();
        text.append(Modifier.toString(method.getModifiers()).replace("public", ""));
        text.append(method.getReturnType()).append(' ').append(method.getName());
        text.append(inBrackets(method.getParameterTypes())).append(' ');
        for (Class<?> thrown : method.getExceptionTypes()) {
            text.append(thrown.getSimpleName()).append(' ');
        }
        return text.toString();
    }

    private static String inBrackets(Class<?>[] types) {
        StringBuilder text = new StringBuilder("(");
        for (int i = 0; i < types.length; i++) {
            text.append(i == 0 ? "" : ",").append(types[i]);
        }
        return text.append(")").toString();
    }

    private static Set<String> namesTakenTwice() {
        Set<String> open = new TreeSet<>();
        for (Method method : PointedWords.class.getDeclaredMethods()) {
            if (Modifier.isPublic(method.getModifiers())) {
                open.add(method.getName());
            }
        }
        Set<String> twice = new TreeSet<>();
        for (Method method : PointedWords.class.getDeclaredMethods()) {
            if (!Modifier.isPublic(method.getModifiers()) && open.contains(method.getName())) {
                twice.add(method.getName());
            }
        }
        for (Class<?> inside : PointedWords.class.getDeclaredClasses()) {
            for (Method method : inside.getDeclaredMethods()) {
                if (open.contains(method.getName())) {
                    twice.add(inside.getSimpleName() + "." + method.getName());
                }
            }
        }
        return twice;
    }
}
