import java.lang.reflect.Constructor;
import java.lang.reflect.Field;
import java.lang.reflect.Method;
import java.lang.reflect.Modifier;
import java.util.Arrays;
import java.util.Set;
import java.util.TreeSet;

/** The public face: every constant, constructor and method of the document, and no other. */
public final class FaceTest {
    private static final Check CHECK = new Check();

    private static final Set<String> FACE = new TreeSet<>(Arrays.asList(
        "int term(int, int, int, int)", "int bound(int, int, int)", "void clear()",
        "boolean set(int, int, int)", "int cell(int, int)", "int at(int, int)", "int wrong()",
        "int prove()", "int proof(int)", "boolean alter(int, int)", "int verify()", "int position(int)"));

    public static void main(String[] args) {
        constants();
        methods();
        hiddenNames();
        CHECK.end();
    }

    private static void constants() {
        CHECK.due("BAD", TraceProver.BAD, -1);
        CHECK.due("NONE", TraceProver.NONE, -2);
        CHECK.due("FULL", TraceProver.FULL, -3);
        Set<String> seen = new TreeSet<>();
        for (Field field : TraceProver.class.getDeclaredFields()) {
            if (!Modifier.isPrivate(field.getModifiers())) {
                seen.add(field.getName());
            }
            boolean stays = !Modifier.isStatic(field.getModifiers()) || Modifier.isFinal(field.getModifiers());
            CHECK.due("a static field is final: " + field.getName(), stays, true);
        }
        CHECK.due("the open fields are " + seen, seen.equals(Set.of("BAD", "NONE", "FULL")), true);
    }

    private static void methods() {
        int form = TraceProver.class.getModifiers();
        CHECK.due("the class is public and final", Modifier.isPublic(form) && Modifier.isFinal(form), true);
        Set<String> seen = new TreeSet<>();
        for (Method method : TraceProver.class.getDeclaredMethods()) {
            if (!Modifier.isPrivate(method.getModifiers()) && !method.isSynthetic()) {
                seen.add(signature(method));
                CHECK.due("public: " + method.getName(), Modifier.isPublic(method.getModifiers()), true);
                CHECK.due("throws nothing: " + method.getName(), method.getExceptionTypes().length, 0);
            }
        }
        CHECK.due("the open methods are " + seen, seen.equals(FACE), true);
        Constructor<?>[] made = TraceProver.class.getDeclaredConstructors();
        CHECK.due("constructors", made.length, 1);
        CHECK.due("the constructor takes nothing", made[0].getParameterCount(), 0);
        CHECK.due("the constructor is public", Modifier.isPublic(made[0].getModifiers()), true);
    }

    private static String signature(Method method) {
        StringBuilder text = new StringBuilder();
        for (Class<?> type : method.getParameterTypes()) {
            text.append(text.length() == 0 ? "" : ", ").append(type.getName());
        }
        return method.getReturnType().getName() + " " + method.getName() + "(" + text + ")";
    }

    private static void hiddenNames() {
        Set<String> names = new TreeSet<>();
        for (String method : FACE) {
            names.add(method.substring(method.indexOf(' ') + 1, method.indexOf('(')));
        }
        for (Method method : TraceProver.class.getDeclaredMethods()) {
            boolean clash = Modifier.isPrivate(method.getModifiers()) && names.contains(method.getName());
            CHECK.due("a private method named " + method.getName(), clash, false);
        }
        for (Class<?> inside : TraceProver.class.getDeclaredClasses()) {
            boolean hidden = !Modifier.isPublic(inside.getModifiers()) && !Modifier.isProtected(inside.getModifiers());
            CHECK.due(inside.getName() + " is hidden and static", hidden && Modifier.isStatic(inside.getModifiers()), true);
        }
    }
}
