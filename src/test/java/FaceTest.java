import java.lang.reflect.Constructor;
import java.lang.reflect.Field;
import java.lang.reflect.Member;
import java.lang.reflect.Method;
import java.lang.reflect.Modifier;
import java.util.Arrays;
import java.util.TreeSet;

/** The public face: what the document shows, and no other member that can be seen from outside. */
final class FaceTest {
    private FaceTest() {
    }

    public static void main(String[] args) {
        Check.is("public and final", WiredBeans.class.getModifiers(), Modifier.PUBLIC | Modifier.FINAL);
        TreeSet<String> seen = new TreeSet<>();
        for (Method method : WiredBeans.class.getDeclaredMethods()) {
            if (isSeen(method)) {
                seen.add(method.getReturnType().getSimpleName() + " " + method.getName()
                        + parameters(method.getParameterTypes()));
            }
        }
        for (Field field : WiredBeans.class.getDeclaredFields()) {
            if (isSeen(field)) {
                seen.add(field.getName());
            }
        }
        for (Constructor<?> constructor : WiredBeans.class.getDeclaredConstructors()) {
            if (isSeen(constructor)) {
                seen.add("new" + parameters(constructor.getParameterTypes()));
            }
        }
        Check.is("the face", seen, new TreeSet<>(Arrays.asList(
                "NONE", "new()", "boolean declare(int,int)", "boolean constructor(int,int,int,int,int)",
                "boolean setter(int,int,int)", "boolean factory(int,int,boolean,int,int,int,int,int)",
                "int type(int,int,int,int,int)", "int read()", "int fault(int)", "int refresh()", "int get(long)",
                "int call(int,int)", "int close()", "int events()", "int event(int,int)", "int object(int,int)",
                "int bean(int,int)")));
        Check.end();
    }

    private static boolean isSeen(Member member) {
        return !Modifier.isPrivate(member.getModifiers()) && !member.isSynthetic();
    }

    private static String parameters(Class<?>[] types) {
        StringBuilder all = new StringBuilder("(");
        for (int i = 0; i < types.length; i++) {
            all.append(i == 0 ? "" : ",").append(types[i].getSimpleName());
        }
        return all.append(")").toString();
    }
}
