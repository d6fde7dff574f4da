import java.lang.reflect.Constructor;
import java.lang.reflect.Field;
import java.lang.reflect.Method;
import java.lang.reflect.Modifier;
import java.util.Set;
import java.util.TreeSet;

/** The public face: its constants, constructor and methods with their throws clauses, and nothing else. */
final class FaceTest {
    private static final Check check = new Check("FaceTest");

    private static final String INDEX = "IndexOutOfBoundsException";
    private static final String ARGUMENT = "IllegalArgumentException";
    private static final String STATE = "IllegalStateException";

    public static void main(String[] args) {
        constants();
        members();
        fields();
        check.finish();
    }

    private static void constants() {
        check.due("NONE", Leaguewheel.NONE, -1);
        check.due("RIGHT", Leaguewheel.RIGHT, 0);
        check.due("LAP", Leaguewheel.LAP, 1);
        check.due("MISSED", Leaguewheel.MISSED, 2);
        check.due("WRONG", Leaguewheel.WRONG, 3);
        check.due("PAID", Leaguewheel.PAID, 4);
        check.due("FINISHED", Leaguewheel.FINISHED, 5);
        check.due("BOOST", Leaguewheel.BOOST, 0);
        check.due("SHELL", Leaguewheel.SHELL, 1);
        check.due("SHIELD", Leaguewheel.SHIELD, 2);
        check.due("BOLT", Leaguewheel.BOLT, 3);
    }

    private static void members() {
        check.due("public and final", Modifier.toString(Leaguewheel.class.getModifiers()), "public final");
        Set<String> face = new TreeSet<>();
        for (Constructor<?> made : Leaguewheel.class.getDeclaredConstructors()) {
            face.add(Modifier.toString(made.getModifiers()) + " new" + list(made.getParameterTypes()));
        }
        for (Method method : Leaguewheel.class.getDeclaredMethods()) {
            if (!Modifier.isPrivate(method.getModifiers()) && !method.isSynthetic()) {
                face.add(method.getReturnType() + " " + method.getName() + list(method.getParameterTypes())
                        + list(method.getExceptionTypes()));
            }
        }
        check.due("members", face, expected());
    }

    private static String list(Class<?>[] types) {
        StringBuilder names = new StringBuilder("(");
        for (Class<?> type : types) {
            names.append(names.length() == 1 ? "" : " ").append(type.getSimpleName());
        }
        return names.append(")").toString();
    }

    private static Set<String> expected() {
        Set<String> face = new TreeSet<>();
        face.add("public new()");
        add(face, "int addGate(boolean)", STATE);
        add(face, "int addWay(int int int)", INDEX, ARGUMENT, STATE);
        for (String name : new String[] {"gates()", "karts()", "races()", "textLength()"}) {
            add(face, "int " + name);
        }
        add(face, "boolean isOn()");
        add(face, "void setDraw(int)");
        add(face, "int start(int)", ARGUMENT, STATE);
        add(face, "int end()", STATE);
        add(face, "int idle(int)", ARGUMENT);
        add(face, "int setDropped(int)", ARGUMENT);
        add(face, "int pass(int int)", INDEX, STATE);
        add(face, "int place(int int)", INDEX);
        add(face, "char textAt(int)", INDEX);
        for (String name : new String[] {"addKart", "gateOf", "lapsOf", "missing", "rank", "rankByRecord",
            "catchUp", "draw", "use"}) {
            add(face, "int " + name + "(int)", INDEX, STATE);
        }
        for (String name : new String[] {"rest", "itemOf", "stunned", "points", "teamPoints", "standing"}) {
            add(face, "int " + name + "(int)", INDEX);
        }
        return face;
    }

    private static void add(Set<String> face, String method, String... exceptions) {
        face.add(method + "(" + String.join(" ", exceptions) + ")");
    }

    private static void fields() {
        Set<String> open = new TreeSet<>();
        for (Field field : Leaguewheel.class.getDeclaredFields()) {
            if (!Modifier.isPrivate(field.getModifiers())) {
                open.add(field.getName());
            }
        }
        check.due("constants alone are open", open, new TreeSet<>(Set.of("NONE", "RIGHT", "LAP", "MISSED",
                "WRONG", "PAID", "FINISHED", "BOOST", "SHELL", "SHIELD", "BOLT")));
        for (Class<?> inside : Leaguewheel.class.getDeclaredClasses()) {
            check.due(inside + " is static", Modifier.isStatic(inside.getModifiers()), true);
            check.due(inside + " is not open", Modifier.isPublic(inside.getModifiers()), false);
        }
    }
}
