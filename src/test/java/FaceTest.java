import java.lang.reflect.Constructor;
import java.lang.reflect.Executable;
import java.lang.reflect.Field;
import java.lang.reflect.Member;
import java.lang.reflect.Method;
import java.lang.reflect.Modifier;
import java.util.Arrays;
import java.util.TreeSet;

/** The public face: what the document shows, and no other member that can be seen from outside. */
final class FaceTest {
    private FaceTest() {
    }

    public static void main(String[] args) throws ReflectiveOperationException {
        members();
        modifiers();
        none();
        Check.end();
    }

    private static void members() {
        TreeSet<String> seen = new TreeSet<>();
        for (Method method : WiredBeans.class.getDeclaredMethods()) {
            if (isSeen(method)) {
                seen.add(method.getReturnType().getSimpleName() + " " + method.getName() + signature(method));
            }
        }
        for (Field field : WiredBeans.class.getDeclaredFields()) {
            if (isSeen(field)) {
                seen.add(field.getName());
            }
        }
        for (Constructor<?> constructor : WiredBeans.class.getDeclaredConstructors()) {
            if (isSeen(constructor)) {
                seen.add("new" + signature(constructor));
            }
        }
        String fails = "IllegalStateException UnsupportedOperationException";
        Check.is("the face", seen, new TreeSet<>(Arrays.asList(
                "NONE", "new()", "boolean declare(int,int)", "boolean constructor(int,int,int,int,int)",
                "boolean setter(int,int,int)", "boolean factory(int,int,boolean,int,int,int,int,int)",
                "int type(int,int,int,int,int)", "int read() throws IllegalArgumentException", "int fault(int)",
                "int refresh() throws " + fails, "int get(long) throws " + fails,
                "int call(int,int) throws IllegalStateException IndexOutOfBoundsException UnsupportedOperationException",
                "int close()", "int events()", "int event(int,int)", "int object(int,int)", "int bean(int,int)")));
    }

    private static void modifiers() {
        Check.is("public and final", WiredBeans.class.getModifiers(), Modifier.PUBLIC | Modifier.FINAL);
        Check.is("its superclass", WiredBeans.class.getSuperclass(), Object.class);
        Check.is("its interfaces", WiredBeans.class.getInterfaces().length, 0);
        for (Method method : WiredBeans.class.getDeclaredMethods()) {
            if (isSeen(method)) {
                Check.is(method.getName() + " is public and of an object", method.getModifiers(), Modifier.PUBLIC);
            }
        }
        Check.is("public constructors", WiredBeans.class.getConstructors().length, 1);
    }

    /** "NONE = -1". */
    private static void none() throws ReflectiveOperationException {
        Field none = WiredBeans.class.getDeclaredField("NONE");
        Check.is("NONE is a constant", none.getModifiers(), Modifier.PUBLIC | Modifier.STATIC | Modifier.FINAL);
        Check.is("NONE is an int", none.getType(), int.class);
        Check.is("NONE", WiredBeans.NONE, -1);
    }

    private static boolean isSeen(Member member) {
        return !Modifier.isPrivate(member.getModifiers()) && !member.isSynthetic();
    }

    private static String signature(Executable called) {
        StringBuilder all = new StringBuilder("(");
        for (Class<?> type : called.getParameterTypes()) {
            all.append(all.length() == 1 ? "" : ",").append(type.getSimpleName());
        }
        all.append(")");
        String before = " throws ";
        for (Class<?> thrown : called.getExceptionTypes()) {
            all.append(before).append(thrown.getSimpleName());
            before = " ";
        }
        return all.toString();
    }
}
