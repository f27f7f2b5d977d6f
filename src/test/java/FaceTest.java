import java.lang.reflect.Constructor;
import java.lang.reflect.Field;
import java.lang.reflect.Method;
import java.lang.reflect.Modifier;
import java.util.Set;
import java.util.TreeSet;

/** The public face, as the document shows it and no more; and the constants' numbers. */
public final class FaceTest {
    private static final Set<String> FACE = Set.of("star/4", "sky/2", "about/2", "limit/1", "way/2", "list/0",
        "line/3", "written/3", "mend/4", "round/2", "slip/5", "cost/5", "best/3", "matched/4", "dated/4", "doubt/5",
        "shift/2", "fault/4", "share/4", "apart/4", "tree/2", "row/3", "count/1");
    private static final Checks c = new Checks();

    public static void main(String[] args) {
        constants();
        methods();
        fields();
        constructors();
        c.end("FaceTest");
    }

    private static void constants() {
        c.due("UNKNOWN", StarLists.UNKNOWN, -1);
        c.due("OUTSIDE", StarLists.OUTSIDE, -2);
        c.due("FULL", StarLists.FULL, -4);
        c.due("NONE", StarLists.NONE, -9);
    }

    private static boolean isPrivate(int modifiers) {
        return Modifier.isPrivate(modifiers);
    }

    private static void methods() {
        Set<String> open = new TreeSet<>();
        for (Method method : StarLists.class.getDeclaredMethods()) {
            if (isPrivate(method.getModifiers())) {
                c.due("private " + method.getName() + " bears a public name", hasName(method.getName()) ? 1 : 0, 0);
                continue;
            }
            open.add(method.getName() + "/" + method.getParameterCount());
            c.due(method + " is public", Modifier.isPublic(method.getModifiers()) ? 1 : 0, 1);
            c.due(method + " answers an int", method.getReturnType() == int.class ? 1 : 0, 1);
            for (Class<?> type : method.getParameterTypes()) c.due(method + " takes ints", type == int.class ? 1 : 0, 1);
        }
        c.due("the open methods are " + open, open.equals(FACE) ? 1 : 0, 1);
    }

    private static boolean hasName(String name) {
        for (String one : FACE) if (one.startsWith(name + "/")) return true;
        return false;
    }

    private static void fields() {
        int open = 0;
        for (Field field : StarLists.class.getDeclaredFields()) if (!isPrivate(field.getModifiers())) open++;
        c.due("fields that are not private", open, 4);
    }

    private static void constructors() {
        Constructor<?>[] all = StarLists.class.getDeclaredConstructors();
        c.due("constructors", all.length, 1);
        c.due("its parameters", all[0].getParameterCount(), 0);
        c.due("it is public", Modifier.isPublic(all[0].getModifiers()) ? 1 : 0, 1);
        c.due("the class is final", Modifier.isFinal(StarLists.class.getModifiers()) ? 1 : 0, 1);
        c.due("the class is public", Modifier.isPublic(StarLists.class.getModifiers()) ? 1 : 0, 1);
    }
}
