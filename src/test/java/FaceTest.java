import java.lang.reflect.Constructor;
import java.lang.reflect.Field;
import java.lang.reflect.Method;
import java.lang.reflect.Modifier;
import java.util.ArrayList;
import java.util.Collections;
import java.util.List;

/** The class has the document's public face, and no other member that is not private. */
public final class FaceTest {
    private static final String NO_POINT = " throws IndexOutOfBoundsException";
    private static final String RANGE = " throws IllegalArgumentException";
    private static final String THEN_RANGE = " IllegalArgumentException";
    private static final String THEN_STATE = " IllegalStateException";
    private static final String[] METHODS = {
        "int point(int,int)" + RANGE + THEN_STATE,
        "int fuse(int,int)" + RANGE,
        "int balance(int)" + RANGE,
        "int rule(int)" + RANGE,
        "int plugIn(int,int,int,int)" + NO_POINT + THEN_RANGE + THEN_STATE,
        "int takeOut(int)" + NO_POINT + THEN_STATE,
        "int appetite(int,int)" + NO_POINT + THEN_RANGE + THEN_STATE,
        "int stay(int,int)" + NO_POINT + THEN_RANGE + THEN_STATE,
        "int step(int)" + RANGE,
        "int time()", "int points()", "int taken()", "int served()",
        "int need(int)" + NO_POINT,
        "int left(int)" + NO_POINT,
        "int laxity(int)" + NO_POINT + THEN_STATE,
        "int reach(int)" + NO_POINT,
        "int current(int)" + NO_POINT,
        "int load(int)" + RANGE,
        "int imbalance()", "int held()",
        "int fairLevel(int)" + RANGE,
        "boolean canBeReady()"
    };
    private static final String[] CONSTANTS = {"ALL", "FAIR", "LEAST_LAXITY", "NONE"};

    public static void main(String[] args) {
        Checks checks = new Checks("FaceTest");
        checks.same("modifiers of the class", ChargePark.class.getModifiers(), Modifier.PUBLIC | Modifier.FINAL);
        Constructor<?>[] constructors = ChargePark.class.getDeclaredConstructors();
        checks.same("number of constructors", constructors.length, 1);
        checks.same("parameters of the constructor", constructors[0].getParameterCount(), 0);
        checks.same("modifiers of the constructor", constructors[0].getModifiers(), Modifier.PUBLIC);
        checks.same("exceptions of the constructor", constructors[0].getExceptionTypes().length, 0);
        checks.same("class above", ChargePark.class.getSuperclass().getName(), "java.lang.Object");
        checks.same("interfaces", ChargePark.class.getInterfaces().length, 0);
        checks.same("package", ChargePark.class.getPackageName(), "");
        checks.same("methods", openMethods().toString(), sorted(METHODS).toString());
        checks.same("constants", openFields(checks).toString(), sorted(CONSTANTS).toString());
        checks.no("a private method has a public one's name", privateNameIsPublic());
        checks.same("NONE", ChargePark.NONE, -1);
        checks.same("ALL", ChargePark.ALL, 3);
        checks.same("LEAST_LAXITY", ChargePark.LEAST_LAXITY, 0);
        checks.same("FAIR", ChargePark.FAIR, 1);
        checks.end();
    }

    private static List<String> sorted(String[] names) {
        List<String> list = new ArrayList<>(List.of(names));
        Collections.sort(list);
        return list;
    }

    private static List<String> openMethods() {
        List<String> list = new ArrayList<>();
        for (Method method : ChargePark.class.getDeclaredMethods()) {
            if (method.isSynthetic() || Modifier.isPrivate(method.getModifiers())) {
                continue;
            }
            list.add(told(method));
        }
        Collections.sort(list);
        return list;
    }

    /** A method as the document's face tells it; in front of it what it is besides public. */
    private static String told(Method method) {
        int besidesPublic = method.getModifiers() & ~Modifier.PUBLIC;
        StringBuilder text = new StringBuilder(besidesPublic == 0 ? "" : Modifier.toString(besidesPublic) + " ");
        text.append(method.getReturnType().getName()).append(' ').append(method.getName()).append('(');
        for (int k = 0; k < method.getParameterCount(); k++) {
            text.append(k > 0 ? "," : "").append(method.getParameterTypes()[k].getName());
        }
        text.append(')');
        for (int k = 0; k < method.getExceptionTypes().length; k++) {
            text.append(k == 0 ? " throws " : " ").append(method.getExceptionTypes()[k].getSimpleName());
        }
        return text.toString();
    }

    private static List<String> openFields(Checks checks) {
        List<String> list = new ArrayList<>();
        for (Field field : ChargePark.class.getDeclaredFields()) {
            int modifiers = field.getModifiers();
            if (!Modifier.isPrivate(modifiers)) {
                list.add(field.getName());
                checks.yes(field.getName() + " is a public constant",
                    modifiers == (Modifier.PUBLIC | Modifier.STATIC | Modifier.FINAL) && field.getType() == int.class);
            }
        }
        Collections.sort(list);
        return list;
    }

    private static boolean privateNameIsPublic() {
        for (Method hidden : ChargePark.class.getDeclaredMethods()) {
            for (Method open : ChargePark.class.getDeclaredMethods()) {
                if (Modifier.isPrivate(hidden.getModifiers()) && Modifier.isPublic(open.getModifiers())
                        && hidden.getName().equals(open.getName())) {
                    return true;
                }
            }
        }
        return false;
    }
}
