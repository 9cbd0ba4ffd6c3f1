import java.lang.reflect.Constructor;
import java.lang.reflect.Field;
import java.lang.reflect.Method;
import java.lang.reflect.Modifier;
import java.util.Arrays;
import java.util.Set;
import java.util.TreeSet;

/** The public face is the document's, and nothing else of the class can be seen from outside. */
public final class FaceTest {
    private static int wrong = 0;

    public static void main(String[] args) {
        Class<?> face = DecimalText.class;
        due("modifiers", Modifier.toString(face.getModifiers()), "public final");
        due("superclass", face.getSuperclass().getName(), "java.lang.Object");
        due("interfaces", face.getInterfaces().length, 0);
        due("members", visibleMembers(face), new TreeSet<>(Arrays.asList(
                "public DecimalText()",
                "public int DecimalText.make(long,int,int,int,int)",
                "public int DecimalText.at(int)",
                "public int DecimalText.digits(long)")));
        noStaticState(face);
        for (Class<?> inside : face.getDeclaredClasses()) {
            due(inside + " is static", Modifier.isStatic(inside.getModifiers()), true);
            due(inside + " is open", Modifier.isPublic(inside.getModifiers()), false);
            due(inside + " is half open", Modifier.isProtected(inside.getModifiers()), false);
            noStaticState(inside);
        }
        System.out.println("FaceTest: " + (wrong == 0 ? "all as due" : wrong + " wrong"));
        if (wrong != 0) {
            System.exit(1);
        }
    }

    private static void noStaticState(Class<?> owner) {
        for (Field field : owner.getDeclaredFields()) {
            boolean fixed = !Modifier.isStatic(field.getModifiers()) || Modifier.isFinal(field.getModifiers());
            due(field + " is no static state", fixed, true);
        }
    }

    private static Set<String> visibleMembers(Class<?> face) {
        Set<String> members = new TreeSet<>();
        for (Constructor<?> constructor : face.getDeclaredConstructors()) {
            if (!Modifier.isPrivate(constructor.getModifiers())) {
                members.add(constructor.toString());
            }
        }
        for (Method method : face.getDeclaredMethods()) {
            if (!Modifier.isPrivate(method.getModifiers())) {
                members.add(method.toString());
            }
        }
        for (Field field : face.getDeclaredFields()) {
            if (!Modifier.isPrivate(field.getModifiers())) {
                members.add(field.toString());
            }
        }
        return members;
    }

    private static void due(String what, Object got, Object want) {
        if (!got.equals(want)) {
            wrong++;
            System.out.println(what + ": " + got + ", due is " + want);
        }
    }
}
