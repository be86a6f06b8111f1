import java.lang.reflect.Constructor;
import java.lang.reflect.Field;
import java.lang.reflect.Method;
import java.lang.reflect.Modifier;
import java.util.ArrayList;
import java.util.Collections;
import java.util.List;

/** The class has the document's face, and shows nothing else. */
final class FaceTest {
    private static final String OUT = "IndexOutOfBoundsException";
    private static final String ARGUMENT = "IllegalArgumentException";
    private static final String STATE = "IllegalStateException";

    private static final String[] FACE = {
        "int clay(int int) " + ARGUMENT + " " + STATE,
        "int glaze(int int int int int) " + ARGUMENT + " " + STATE,
        "int pot(int int int int) " + OUT + " " + ARGUMENT + " " + STATE,
        "boolean cover(int boolean) " + OUT,
        "int dry(int int) " + ARGUMENT + " " + STATE,
        "int dip(int int) " + OUT + " " + STATE,
        "int set(int int int) " + OUT + " " + STATE,
        "int take(int) " + OUT + " " + STATE,
        "int ramp(int int int) " + ARGUMENT + " " + STATE,
        "int forget() " + STATE,
        "int light() " + STATE,
        "boolean burn(int) " + ARGUMENT,
        "int damper(int) " + ARGUMENT,
        "boolean door(boolean)",
        "int bell()",
        "int unload() " + STATE,
        "int order(int int int int) " + OUT + " " + ARGUMENT + " " + STATE,
        "int meet(int int) " + OUT + " " + STATE,
        "int ofPot(int int) " + OUT + " " + ARGUMENT,
        "double water(int) " + OUT,
        "double ofGlaze(int int) " + OUT + " " + ARGUMENT,
        "double kiln(int) " + ARGUMENT,
        "int ofShelf(int int) " + OUT + " " + ARGUMENT,
        "int many(int) " + ARGUMENT,
        "int wouldCone(int int) " + OUT + " " + ARGUMENT,
        "int wouldEnd()",
        "int best(int int) " + OUT + " " + ARGUMENT,
        "int wouldHold(int) " + OUT,
        "long digest()",
    };

    private static final Checks checks = new Checks();

    public static void main(String[] args) {
        checks.same("modifiers", Modifier.toString(KilnYard.class.getModifiers()), "public final");
        methods();
        constructors();
        fields();
        classesInside();
        checks.end();
    }

    private static void methods() {
        List<String> seen = new ArrayList<>();
        List<String> names = new ArrayList<>();
        for (Method method : KilnYard.class.getDeclaredMethods()) {
            if (Modifier.isPublic(method.getModifiers())) {
                seen.add(lineOf(method));
                names.add(method.getName());
                checks.same(method.getName(), Modifier.toString(method.getModifiers()), "public");
            }
        }
        for (Method method : KilnYard.class.getDeclaredMethods()) {
            if (!Modifier.isPublic(method.getModifiers())) {
                checks.same(method.getName() + " is private", Modifier.isPrivate(method.getModifiers()), true);
                checks.same(method.getName() + " is a name of the face", names.contains(method.getName()), false);
            }
        }
        List<String> due = new ArrayList<>(List.of(FACE));
        Collections.sort(due);
        Collections.sort(seen);
        checks.same("the face", String.join("\n", seen), String.join("\n", due));
    }

    private static String lineOf(Method method) {
        StringBuilder line = new StringBuilder();
        line.append(method.getReturnType()).append(' ').append(method.getName()).append('(');
        line.append(names(method.getParameterTypes())).append(") ").append(names(method.getExceptionTypes()));
        return line.toString().trim();
    }

    private static String names(Class<?>[] types) {
        List<String> names = new ArrayList<>();
        for (Class<?> type : types) {
            names.add(type.getSimpleName());
        }
        return String.join(" ", names);
    }

    private static void constructors() {
        Constructor<?>[] all = KilnYard.class.getDeclaredConstructors();
        checks.same("constructors", all.length, 1);
        checks.same("its parameters", all[0].getParameterCount(), 0);
        checks.same("its modifiers", Modifier.toString(all[0].getModifiers()), "public");
    }

    private static void fields() {
        int objectFields = 0;
        for (Field field : KilnYard.class.getDeclaredFields()) {
            int modifiers = field.getModifiers();
            checks.same(field.getName() + " is private", Modifier.isPrivate(modifiers), true);
            checks.same(field.getName() + " is final, if static",
                    !Modifier.isStatic(modifiers) || Modifier.isFinal(modifiers), true);
            objectFields += Modifier.isStatic(modifiers) ? 0 : 1;
        }
        checks.same("some twenty fields", objectFields <= 20, true);
    }

    private static void classesInside() {
        Class<?>[] inside = KilnYard.class.getDeclaredClasses();
        checks.same("some twelve classes", inside.length < 12, true);
        for (Class<?> it : inside) {
            checks.same(it.getName() + " is private or package-visible",
                    Modifier.isPublic(it.getModifiers()) || Modifier.isProtected(it.getModifiers()), false);
            checks.same(it.getName() + " is static", Modifier.isStatic(it.getModifiers()), true);
            checks.same(it.getName() + " has some twenty fields", it.getDeclaredFields().length <= 20, true);
        }
    }
}
