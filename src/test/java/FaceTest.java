import java.lang.reflect.Constructor;
import java.lang.reflect.Field;
import java.lang.reflect.Method;
import java.lang.reflect.Modifier;
import java.util.ArrayList;
import java.util.List;
import java.util.TreeSet;

/** The class shows the document's face and nothing else (LANGUAGE.md, rules 1, 2, 5 and 11). */
public final class FaceTest {
    private static final Check CHECK = new Check("FaceTest");
    private static final String IAE = " throws IllegalArgumentException";
    private static final String BOTH = IAE + ", IllegalStateException";

    private static final List<String> FACE = List.of(
            "int ENTERED", "int LOOKED", "int UNLIKE", "int NO_RIGHT",
            "BoxVault()",
            "int pass(int)" + BOTH,
            "int rent(int, int, int)" + BOTH,
            "int extend(int, int)" + BOTH,
            "int giveBack(int, int)" + BOTH,
            "int drill(int, int, int)" + BOTH,
            "int fetch(int, int)" + BOTH,
            "int proxy(int, int, int, int)" + BOTH,
            "boolean heir(int, int, boolean)" + IAE,
            "int die(int)" + BOTH,
            "int order(int, int, int, int)" + BOTH,
            "boolean lift(int) throws IndexOutOfBoundsException, IllegalStateException",
            "int enter(int, int, int)" + BOTH,
            "int may(int, int)" + IAE,
            "int mayAll(int)" + IAE,
            "int holder(int)" + IAE,
            "int notices(int)" + IAE,
            "int refusals(int)" + IAE,
            "int binding(int)" + IAE);

    public static void main(String[] args) {
        CHECK.same("members that are not private",
                new TreeSet<>(FACE).toString(), visibleMembers(BoxVault.class).toString());
        CHECK.same("the class is final", "true", "" + Modifier.isFinal(BoxVault.class.getModifiers()));
        insideClasses();
        staticFields(BoxVault.class);
        CHECK.end();
    }

    private static TreeSet<String> visibleMembers(Class<?> owner) {
        TreeSet<String> seen = new TreeSet<>();
        for (Field field : owner.getDeclaredFields()) {
            if (!Modifier.isPrivate(field.getModifiers())) {
                seen.add(field.getType().getSimpleName() + " " + field.getName());
            }
        }
        for (Constructor<?> made : owner.getDeclaredConstructors()) {
            seen.add(owner.getSimpleName() + list(made.getParameterTypes()));
        }
        for (Method method : owner.getDeclaredMethods()) {
            if (!Modifier.isPrivate(method.getModifiers())) {
                seen.add(method.getReturnType().getSimpleName() + " " + method.getName()
                        + list(method.getParameterTypes()) + thrown(method.getExceptionTypes()));
            }
        }
        return seen;
    }

    private static String list(Class<?>[] types) {
        List<String> names = new ArrayList<>();
        for (Class<?> type : types) {
            names.add(type.getSimpleName());
        }
        return names.toString().replace('[', '(').replace(']', ')');
    }

    private static String thrown(Class<?>[] types) {
        String names = list(types);
        return types.length == 0 ? "" : " throws " + names.substring(1, names.length() - 1);
    }

    private static void insideClasses() {
        TreeSet<String> faceNames = new TreeSet<>();
        for (Method method : BoxVault.class.getMethods()) {
            faceNames.add(method.getName());
        }
        for (Class<?> inside : BoxVault.class.getDeclaredClasses()) {
            int is = inside.getModifiers();
            CHECK.same(inside + " is hidden", "false", "" + (Modifier.isPublic(is) || Modifier.isProtected(is)));
            CHECK.same(inside + " is static", "true", "" + Modifier.isStatic(is));
            staticFields(inside);
            for (Method method : inside.getDeclaredMethods()) {
                CHECK.same(method + " bears a name of the face", "false", "" + faceNames.contains(method.getName()));
            }
        }
        for (Method method : BoxVault.class.getDeclaredMethods()) {
            boolean hidden = Modifier.isPrivate(method.getModifiers());
            CHECK.same(method + " bears a name of the face", "" + !hidden, "" + faceNames.contains(method.getName()));
        }
    }

    private static void staticFields(Class<?> owner) {
        for (Field field : owner.getDeclaredFields()) {
            int is = field.getModifiers();
            CHECK.same(field + " is final if static", "true", "" + (!Modifier.isStatic(is) || Modifier.isFinal(is)));
        }
    }
}
