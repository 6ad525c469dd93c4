import java.lang.reflect.Constructor;
import java.lang.reflect.Field;
import java.lang.reflect.Method;
import java.lang.reflect.Modifier;
import java.util.ArrayList;
import java.util.Collections;
import java.util.List;

/** The class has the document's face and no member beside it that others can see. */
public final class FaceTest {
    private static final String[] FACE = {
        "public static final int NONE",
        "public PinKindChecks()",
        "public boolean table(int,int,int) IndexOutOfBoundsException IllegalArgumentException",
        "public int part(int) IndexOutOfBoundsException",
        "public int net(int,int) IndexOutOfBoundsException IllegalArgumentException",
        "public int pin(int,int,int) IndexOutOfBoundsException IllegalArgumentException",
        "public boolean join(int,int) IndexOutOfBoundsException",
        "public boolean field(int,int,long) IndexOutOfBoundsException",
        "public boolean end(int,long,long) IndexOutOfBoundsException",
        "public boolean unit(int)",
        "public int rule() IllegalStateException",
        "public boolean off(int,boolean) IndexOutOfBoundsException",
        "public int run()",
        "public int remark(int,int) IndexOutOfBoundsException",
        "public int closed(int,int) IndexOutOfBoundsException",
        "public boolean waive(int,int,int,int) IndexOutOfBoundsException IllegalArgumentException",
        "public int next()",
        "public int offRule(int)",
        "public void clear()",
    };

    public static void main(String[] args) {
        Due.is("NONE", PinKindChecks.NONE, -1);
        Due.is("the class is public and final",
                PinKindChecks.class.getModifiers() == (Modifier.PUBLIC | Modifier.FINAL), true);
        List<String> want = new ArrayList<>(List.of(FACE));
        List<String> got = visibleMembers();
        Collections.sort(want);
        Collections.sort(got);
        if (!want.equals(got)) {
            Due.tell("the face is " + got + ", due is " + want);
        }
        for (Class<?> inside : PinKindChecks.class.getDeclaredClasses()) {
            Due.is(inside.getSimpleName() + " is static", Modifier.isStatic(inside.getModifiers()), true);
        }
        Due.end();
    }

    private static List<String> visibleMembers() {
        List<String> members = new ArrayList<>();
        for (Field field : PinKindChecks.class.getDeclaredFields()) {
            if (!Modifier.isPrivate(field.getModifiers())) {
                members.add(Modifier.toString(field.getModifiers()) + " " + field.getType() + " " + field.getName());
            }
        }
        for (Constructor<?> made : PinKindChecks.class.getDeclaredConstructors()) {
            if (!Modifier.isPrivate(made.getModifiers())) {
                members.add(Modifier.toString(made.getModifiers()) + " " + made.getName()
                        + types(made.getParameterTypes()) + names(made.getExceptionTypes()));
            }
        }
        for (Method method : PinKindChecks.class.getDeclaredMethods()) {
            if (!Modifier.isPrivate(method.getModifiers()) && !method.isSynthetic()) {
                members.add(Modifier.toString(method.getModifiers()) + " " + method.getReturnType() + " "
                        + method.getName() + types(method.getParameterTypes()) + names(method.getExceptionTypes()));
            }
        }
        return members;
    }

    private static String types(Class<?>[] types) {
        List<String> names = new ArrayList<>();
        for (Class<?> type : types) {
            names.add(type.getSimpleName());
        }
        return "(" + String.join(",", names) + ")";
    }

    private static String names(Class<?>[] types) {
        StringBuilder names = new StringBuilder();
        for (Class<?> type : types) {
            names.append(' ').append(type.getSimpleName());
        }
        return names.toString();
    }
}
