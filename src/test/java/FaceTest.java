import java.lang.reflect.Constructor;
import java.lang.reflect.Field;
import java.lang.reflect.Method;
import java.lang.reflect.Modifier;
import java.util.Arrays;
import java.util.IdentityHashMap;
import java.util.Map;
import java.util.Set;
import java.util.TreeSet;

/** The public face, by the document and LANGUAGE.md's rules 1, 5, 11 and 12 as far as they can be seen from outside. */
public final class FaceTest {
    private static final Due due = new Due();
    private static final String[] FACE = {
        "void feed(int, int, int, int, int)", "int end(int, int)", "boolean cut(int)", "boolean flip(int, int)",
        "int take() IllegalStateException", "int crc()", "int pack()", "int parts()", "int part(int, int)",
        "int blocks()", "int block(int, int)", "int code(int, int, int)", "int unpack() IllegalArgumentException",
        "int fault(int)", "int output(int)",
        "void weigh(int, int) IndexOutOfBoundsException IllegalArgumentException",
        "int measure(int) IllegalArgumentException IllegalStateException", "int length(int)", "int about(int)"};

    public static void main(String[] args) throws ReflectiveOperationException {
        theMethods();
        theConstructorAndConstants();
        theClassesInside();
        theRoom();
        due.end();
    }

    private static void theMethods() {
        Set<String> open = new TreeSet<>();
        Set<String> names = new TreeSet<>();
        for (Method method : PackDesk.class.getDeclaredMethods()) {
            if (Modifier.isPublic(method.getModifiers())) {
                open.add(told(method));
                names.add(method.getName());
            } else {
                due.same(method + " is private", Modifier.isPrivate(method.getModifiers()), true);
            }
        }
        due.same("the face", open.toString(), new TreeSet<>(Arrays.asList(FACE)).toString());
        for (Class<?> inside : PackDesk.class.getDeclaredClasses()) {
            for (Method method : inside.getDeclaredMethods()) {
                due.same(method + " has a name of the face", names.contains(method.getName()), false);
                due.same(method + " takes at most seven", method.getParameterCount() <= 7, true);
            }
        }
    }

    private static String told(Method method) {
        StringBuilder text = new StringBuilder(method.getReturnType() + " " + method.getName() + "(");
        for (Class<?> type : method.getParameterTypes()) {
            text.append(text.charAt(text.length() - 1) == '(' ? "" : ", ").append(type);
        }
        text.append(")");
        for (Class<?> type : method.getExceptionTypes()) {
            text.append(" ").append(type.getSimpleName());
        }
        return text.toString();
    }

    private static void theConstructorAndConstants() throws ReflectiveOperationException {
        Constructor<?>[] made = PackDesk.class.getDeclaredConstructors();
        due.same("constructors", made.length, 1);
        due.same("it is public", Modifier.isPublic(made[0].getModifiers()), true);
        due.same("it takes nothing", made[0].getParameterCount(), 0);
        due.same("the class is public and final", PackDesk.class.getModifiers(), Modifier.PUBLIC | Modifier.FINAL);
        for (Field field : PackDesk.class.getDeclaredFields()) {
            if (field.getName().equals("NONE")) {
                due.same("NONE", field.getModifiers(), Modifier.PUBLIC | Modifier.STATIC | Modifier.FINAL);
                due.same("NONE", field.getInt(null), -1);
            } else {
                due.same(field + " is private", Modifier.isPrivate(field.getModifiers()), true);
            }
        }
    }

    private static void theClassesInside() {
        int classes = 1;
        for (Class<?> inside : PackDesk.class.getDeclaredClasses()) {
            classes++;
            due.same(inside + " is static", Modifier.isStatic(inside.getModifiers()), true);
            due.same(inside + " is not public", Modifier.isPublic(inside.getModifiers()), false);
            int fields = 0;
            for (Field field : inside.getDeclaredFields()) {
                boolean fixed = Modifier.isStatic(field.getModifiers());
                fields += fixed ? 0 : 1;
                due.same(field + " may be static", !fixed || Modifier.isFinal(field.getModifiers()), true);
            }
            due.same(inside + " has few fields", fields <= 20, true);
        }
        due.same("few classes", classes <= 12, true);
    }

    /** A desk is small, and no call makes it larger: all its rows are made at once. */
    private static void theRoom() throws ReflectiveOperationException {
        PackDesk desk = new PackDesk();
        long before = elements(desk);
        Desks.put(desk, Desks.noise(6000, 1));
        desk.pack();
        Desks.replace(desk, Desks.ofText(Desks.TEXT));
        desk.pack();
        desk.take();
        desk.unpack();
        due.same("fields and elements", elements(desk), before);
        due.same("they are few: " + before, before < 60000, true);
    }

    private static long elements(Object root) throws ReflectiveOperationException {
        Map<Object, Boolean> seen = new IdentityHashMap<>();
        return elements(root, seen);
    }

    private static long elements(Object object, Map<Object, Boolean> seen) throws ReflectiveOperationException {
        if (object == null || seen.put(object, true) != null) {
            return 0;
        }
        if (object.getClass().isArray()) {
            return java.lang.reflect.Array.getLength(object);
        }
        long sum = 0;
        for (Field field : object.getClass().getDeclaredFields()) {
            if (!Modifier.isStatic(field.getModifiers())) {
                field.setAccessible(true);
                sum += 1 + (field.getType().isPrimitive() ? 0 : elements(field.get(object), seen));
            }
        }
        return sum;
    }
}
