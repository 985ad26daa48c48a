import java.lang.reflect.Constructor;
import java.lang.reflect.Field;
import java.lang.reflect.Member;
import java.lang.reflect.Method;
import java.lang.reflect.Modifier;
import java.util.Set;
import java.util.TreeSet;

/** The public face: the names, the kinds of arguments and answers, the two constants, and no other member in sight. */
public final class CellEngineFaceTest extends Checks {
    private static final String[] METHODS = {
        "int code(int)", "int cut(int)", "int put(long)", "int constant()", "boolean start(int, int)", "int step(int)",
        "int look(int, long, int)", "int byteOf(int, long, int)", "boolean same(int, long, int, long)", "int out(int)",
        "boolean limits(int, int, int)", "boolean collect(int)", "int reached()", "int save()", "int restore()",
        "int count(int)"};

    public static void main(String[] args) {
        where = "face";
        theClass();
        constants();
        constructor();
        methods();
        classesInside();
        end();
    }

    private static void theClass() {
        int modifiers = CellEngine.class.getModifiers();
        due("the class is public", Modifier.isPublic(modifiers), true);
        due("the class is final", Modifier.isFinal(modifiers), true);
        due("the class has no package", CellEngine.class.getPackageName().isEmpty(), true);
        due("the class is above none but Object", CellEngine.class.getSuperclass() == Object.class, true);
        due("the class implements", CellEngine.class.getInterfaces().length, 0);
    }

    private static void constants() {
        due("NONE", CellEngine.NONE, -1);
        due("FULL", CellEngine.FULL, -2);
        Set<String> seen = new TreeSet<>();
        for (Field field : CellEngine.class.getDeclaredFields()) {
            if (inSight(field)) {
                seen.add(Modifier.toString(field.getModifiers()) + " " + field.getType().getName() + " " + field.getName());
            }
        }
        dueSet("constants", seen, "public static final int NONE", "public static final int FULL");
    }

    private static void constructor() {
        Set<String> seen = new TreeSet<>();
        for (Constructor<?> constructor : CellEngine.class.getDeclaredConstructors()) {
            if (inSight(constructor)) {
                seen.add(shown(constructor.getModifiers(), "", "CellEngine", constructor.getParameterTypes()));
            }
        }
        dueSet("constructors", seen, "public CellEngine()");
    }

    private static void methods() {
        Set<String> seen = new TreeSet<>();
        for (Method method : CellEngine.class.getDeclaredMethods()) {
            if (inSight(method)) {
                String answer = method.getReturnType().getName() + " ";
                seen.add(shown(method.getModifiers(), answer, method.getName(), method.getParameterTypes()));
                due(method.getName() + " declares exceptions", method.getExceptionTypes().length, 0);
            }
        }
        String[] want = new String[METHODS.length];
        for (int i = 0; i < want.length; i++) {
            want[i] = "public " + METHODS[i];
        }
        dueSet("methods", seen, want);
    }

    private static void classesInside() {
        for (Class<?> inside : CellEngine.class.getDeclaredClasses()) {
            int modifiers = inside.getModifiers();
            due(inside.getName() + " is in sight", Modifier.isPublic(modifiers) || Modifier.isProtected(modifiers), false);
            due(inside.getName() + " is static", Modifier.isStatic(modifiers), true);
        }
    }

    private static boolean inSight(Member member) {
        return !Modifier.isPrivate(member.getModifiers()) && !member.isSynthetic();
    }

    private static String shown(int modifiers, String answer, String name, Class<?>[] types) {
        StringBuilder text = new StringBuilder(Modifier.toString(modifiers)).append(' ').append(answer).append(name);
        text.append('(');
        for (int i = 0; i < types.length; i++) {
            text.append(i == 0 ? "" : ", ").append(types[i].getName());
        }
        return text.append(')').toString();
    }

    private static void dueSet(String what, Set<String> seen, String... want) {
        Set<String> wanted = new TreeSet<>(java.util.List.of(want));
        if (!seen.equals(wanted)) {
            wrong++;
            System.out.println(where + ": " + what + " are " + seen + ", due are " + wanted);
        }
    }
}
