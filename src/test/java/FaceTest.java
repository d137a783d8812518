import java.lang.reflect.Constructor;
import java.lang.reflect.Field;
import java.lang.reflect.Method;
import java.lang.reflect.Modifier;
import java.util.Set;
import java.util.TreeSet;

/** The class shows the document's face and nothing else. */
public final class FaceTest {
    private static final String[] FACE = {
        "boolean put(int,int,long) throws IllegalArgumentException IndexOutOfBoundsException",
        "int at(int,int) throws IllegalArgumentException IndexOutOfBoundsException",
        "void move(long) throws",
        "int kind() throws",
        "int tried(int) throws IllegalStateException IllegalArgumentException",
        "int answers() throws",
        "int degree(int) throws IndexOutOfBoundsException",
        "int polynomial(int,int) throws IndexOutOfBoundsException",
        "int slope(int,int) throws IndexOutOfBoundsException",
        "int series(long,long,int) throws IndexOutOfBoundsException",
        "int answer(int,int) throws IndexOutOfBoundsException",
        "boolean proves(int,int,int,int,int,int) throws",
        "void clear() throws"};
    private static int wrong = 0;

    private static void expect(boolean holds, String what) {
        if (!holds) {
            wrong++;
            System.out.println(what);
        }
    }

    private static String told(Method method) {
        StringBuilder text = new StringBuilder(method.getReturnType() + " " + method.getName() + "(");
        String gap = "";
        for (Class<?> type : method.getParameterTypes()) {
            text.append(gap).append(type);
            gap = ",";
        }
        text.append(") throws");
        for (Class<?> type : method.getExceptionTypes()) {
            text.append(" ").append(type.getSimpleName());
        }
        return text.toString();
    }

    public static void main(String[] args) {
        Class<OrderTwoCases> face = OrderTwoCases.class;
        Set<String> seen = new TreeSet<>();
        Set<String> names = new TreeSet<>();
        for (Method method : face.getDeclaredMethods()) {
            if (Modifier.isPublic(method.getModifiers())) {
                expect(!Modifier.isStatic(method.getModifiers()), "static: " + method);
                seen.add(told(method));
                names.add(method.getName());
            }
        }
        expect(seen.equals(Set.of(FACE)), "the face is " + seen);
        for (Method method : face.getDeclaredMethods()) {
            int modifiers = method.getModifiers();
            expect(Modifier.isPublic(modifiers) || Modifier.isPrivate(modifiers), "neither public nor private: " + method);
            expect(!Modifier.isPrivate(modifiers) || !names.contains(method.getName()), "a public name: " + method);
        }
        for (Field field : face.getDeclaredFields()) {
            expect(Modifier.isPrivate(field.getModifiers()), "not private: " + field);
        }
        Constructor<?>[] made = face.getDeclaredConstructors();
        expect(made.length == 1 && made[0].getParameterCount() == 0 && Modifier.isPublic(made[0].getModifiers()),
            "one public constructor without parameters");
        expect(Modifier.isFinal(face.getModifiers()) && Modifier.isPublic(face.getModifiers()), "public and final");
        System.out.println(wrong == 0 ? "the face is as due" : wrong + " faults in the face");
        if (wrong != 0) {
            System.exit(1);
        }
    }
}
