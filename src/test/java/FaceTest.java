import java.lang.reflect.Constructor;
import java.lang.reflect.Field;
import java.lang.reflect.Method;
import java.lang.reflect.Modifier;
import java.util.ArrayList;
import java.util.Collections;
import java.util.List;

/** The class has the document's public face, and no other member that is not private. */
public final class FaceTest {
    private static final String[] METHODS = {
        "point(int,int)int", "fuse(int,int)int", "balance(int)int", "rule(int)int",
        "plugIn(int,int,int,int)int", "takeOut(int)int", "appetite(int,int)int", "stay(int,int)int",
        "step(int)int", "time()int", "points()int", "taken()int", "served()int",
        "need(int)int", "left(int)int", "laxity(int)int", "reach(int)int",
        "current(int)int", "load(int)int", "imbalance()int", "held()int", "fairLevel(int)int",
        "canBeReady()boolean"
    };
    private static final String[] CONSTANTS = {"ALL", "FAIR", "LEAST_LAXITY", "NONE"};

    public static void main(String[] args) {
        Checks checks = new Checks("FaceTest");
        checks.same("modifiers of the class", ChargePark.class.getModifiers(), Modifier.PUBLIC | Modifier.FINAL);
        Constructor<?>[] constructors = ChargePark.class.getDeclaredConstructors();
        checks.same("number of constructors", constructors.length, 1);
        checks.same("parameters of the constructor", constructors[0].getParameterCount(), 0);
        checks.yes("constructor is public", Modifier.isPublic(constructors[0].getModifiers()));
        checks.same("methods", openMethods().toString(), sorted(METHODS).toString());
        checks.same("constants", openFields(checks).toString(), sorted(CONSTANTS).toString());
        checks.no("a private method has a public one's name", privateNameIsPublic());
        checks.same("NONE", ChargePark.NONE, -1);
        checks.same("ALL", ChargePark.ALL, 3);
        checks.same("LEAST_LAXITY", ChargePark.LEAST_LAXITY, 0);
        checks.same("FAIR", ChargePark.FAIR, 1);
        checks.end();
    }

    private static List<String> sorted(String[] names) {
        List<String> list = new ArrayList<>(List.of(names));
        Collections.sort(list);
        return list;
    }

    private static List<String> openMethods() {
        List<String> list = new ArrayList<>();
        for (Method method : ChargePark.class.getDeclaredMethods()) {
            if (method.isSynthetic() || Modifier.isPrivate(method.getModifiers())) {
                continue;
            }
            StringBuilder text = new StringBuilder(method.getName()).append('(');
            for (int k = 0; k < method.getParameterCount(); k++) {
                text.append(k > 0 ? "," : "").append(method.getParameterTypes()[k].getName());
            }
            list.add(text.append(')').append(method.getReturnType().getName()).toString());
        }
        Collections.sort(list);
        return list;
    }

    private static List<String> openFields(Checks checks) {
        List<String> list = new ArrayList<>();
        for (Field field : ChargePark.class.getDeclaredFields()) {
            int modifiers = field.getModifiers();
            if (!Modifier.isPrivate(modifiers)) {
                list.add(field.getName());
                checks.yes(field.getName() + " is a public constant",
                    modifiers == (Modifier.PUBLIC | Modifier.STATIC | Modifier.FINAL) && field.getType() == int.class);
            }
        }
        Collections.sort(list);
        return list;
    }

    private static boolean privateNameIsPublic() {
        for (Method hidden : ChargePark.class.getDeclaredMethods()) {
            for (Method open : ChargePark.class.getDeclaredMethods()) {
                if (Modifier.isPrivate(hidden.getModifiers()) && Modifier.isPublic(open.getModifiers())
                        && hidden.getName().equals(open.getName())) {
                    return true;
                }
            }
        }
        return false;
    }
}
