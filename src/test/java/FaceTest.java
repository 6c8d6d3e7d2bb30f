import java.lang.reflect.Constructor;
import java.lang.reflect.Field;
import java.lang.reflect.Member;
import java.lang.reflect.Method;
import java.lang.reflect.Modifier;
import java.util.Arrays;
import java.util.Set;
import java.util.TreeSet;

/** The public face of the document, and what of LANGUAGE.md the compiled classes can tell. */
public final class FaceTest {
    private static final String[] FACE = {
        "int feed(int,int,int,int,int)", "boolean end(int)", "int game()", "int load()", "int fault(int)", "boolean turn(int,boolean)",
        "int weave()", "int told(int,int)", "int count(int)", "int klass(int,int)", "int method(int,int,int)", "int order(int,int,int,int)",
        "boolean start()", "int go(int)", "int state(int)", "int output(int)", "int object(int,int)", "int top(int,int)"};

    private FaceTest() {
    }

    public static void main(String[] args) {
        face();
        inside();
        House.finish();
    }

    private static void face() {
        Class<?> house = WeaveHouse.class;
        House.due("public and final", Modifier.isPublic(house.getModifiers()) && Modifier.isFinal(house.getModifiers()), true);
        Set<String> found = new TreeSet<>();
        for (Method method : house.getDeclaredMethods()) {
            if (!Modifier.isPrivate(method.getModifiers()) && !method.isSynthetic()) {
                House.due("public: " + method, method.getModifiers(), Modifier.PUBLIC);
                found.add(signature(method));
            }
        }
        House.due("the methods of the face: " + found, found.equals(new TreeSet<>(Arrays.asList(FACE))), true);
        Constructor<?>[] constructors = house.getDeclaredConstructors();
        House.due("one constructor", constructors.length, 1);
        House.due("without parameters", constructors[0].getParameterCount(), 0);
        for (Field field : house.getDeclaredFields()) {
            boolean isNone = field.getName().equals("NONE");
            House.due("only NONE is seen: " + field, !Modifier.isPrivate(field.getModifiers()), isNone);
        }
    }

    private static String signature(Method method) {
        StringBuilder text = new StringBuilder(method.getReturnType().getSimpleName()).append(' ').append(method.getName()).append('(');
        String between = "";
        for (Class<?> type : method.getParameterTypes()) {
            text.append(between).append(type.getSimpleName());
            between = ",";
        }
        return text.append(')').toString();
    }

    private static void inside() {
        Class<?>[] classes = WeaveHouse.class.getDeclaredClasses();
        House.due("some twelve classes", classes.length <= 14, true);
        for (Class<?> inner : classes) {
            int modifiers = inner.getModifiers();
            House.due("static, not public: " + inner, Modifier.isStatic(modifiers) && !Modifier.isPublic(modifiers), true);
            limits(inner);
        }
        limits(WeaveHouse.class);
    }

    private static void limits(Class<?> one) {
        int fields = 0;
        for (Field field : one.getDeclaredFields()) {
            if (Modifier.isStatic(field.getModifiers())) {
                House.due("a static field is final: " + field, Modifier.isFinal(field.getModifiers()), true);
            } else {
                fields++;
            }
        }
        House.due("some twenty fields: " + one, fields <= 24, true);
        for (Method method : one.getDeclaredMethods()) {
            House.due("at most seven parameters: " + method, method.getParameterCount() <= 7, true);
            House.due("no other method is named as one of the face: " + method, isFaceName(method) && !isFace(method), false);
        }
    }

    private static boolean isFaceName(Method method) {
        for (String line : FACE) {
            if (line.contains(" " + method.getName() + "(")) {
                return true;
            }
        }
        return false;
    }

    private static boolean isFace(Member member) {
        return member.getDeclaringClass() == WeaveHouse.class && Modifier.isPublic(member.getModifiers());
    }
}
