import java.lang.reflect.Constructor;
import java.lang.reflect.Field;
import java.lang.reflect.Member;
import java.lang.reflect.Method;
import java.lang.reflect.Modifier;
import java.util.TreeSet;

/** The public face: exactly the document's members, and nothing else that can be seen from outside. */
public final class FaceTest {
    private static final String[] FACE = {
        "int feed(int,int,int,int,int)", "int town(int)", "int fault()", "int count(int)", "int thing(int,int)",
        "int bucket(int,int)", "int load(int,int)", "int unload(int)", "int ride(int,int)", "int winding(int)",
        "int may(int)", "int undo()", "int moved(int,int)", "int back()", "int fewest(int)", "int reach(int)",
        "int bars(int,int)", "int day(int)", "int enough(int)", "void image()", "boolean restore()",
    };

    public static void main(String[] args) {
        TreeSet<String> due = new TreeSet<>();
        for (String method : FACE) {
            due.add(method);
        }
        TreeSet<String> got = new TreeSet<>();
        for (Method method : RopeTown.class.getDeclaredMethods()) {
            if (isSeen(method)) {
                got.add(method.getReturnType() + " " + method.getName() + parameters(method));
            }
        }
        Check.same("methods are " + got, 1, got.equals(due) ? 1 : 0);
        int fields = 0;
        for (Field field : RopeTown.class.getDeclaredFields()) {
            fields += isSeen(field) ? 1 : 0;
        }
        Check.same("fields seen from outside", 1, fields);
        Check.same("NONE", -1, RopeTown.NONE);
        Constructor<?>[] constructors = RopeTown.class.getDeclaredConstructors();
        Check.same("constructors", 1, constructors.length);
        Check.same("its parameters", 0, constructors[0].getParameterCount());
        Check.same("it is public", 1, Modifier.isPublic(constructors[0].getModifiers()) ? 1 : 0);
        Check.same("the class is final", 1, Modifier.isFinal(RopeTown.class.getModifiers()) ? 1 : 0);
        checkNamesInside(due);
        Check.end("FaceTest");
    }

    private static void checkNamesInside(TreeSet<String> face) {
        for (Class<?> inside : RopeTown.class.getDeclaredClasses()) {
            for (Method method : inside.getDeclaredMethods()) {
                for (String known : face) {
                    boolean same = known.contains(" " + method.getName() + "(");
                    Check.same(method + " bears a name of the face", 0, same ? 1 : 0);
                }
            }
        }
    }

    private static boolean isSeen(Member member) {
        return !member.isSynthetic() && !Modifier.isPrivate(member.getModifiers());
    }

    private static String parameters(Method method) {
        StringBuilder text = new StringBuilder("(");
        for (Class<?> type : method.getParameterTypes()) {
            text.append(text.length() > 1 ? "," : "").append(type);
        }
        return text.append(")").toString();
    }
}
