import java.lang.reflect.Constructor;
import java.lang.reflect.Field;
import java.lang.reflect.Method;
import java.lang.reflect.Modifier;
import java.util.Set;
import java.util.TreeSet;

/** Promise 1 and the public face: the class shows the document's constructor and methods alone. */
public final class FaceTest {
    public static void main(String[] args) {
        Set<String> due = new TreeSet<>(Set.of(
            "int code(int, int, int, int, int)", "boolean boot()", "int step(int)", "int undo(int)",
            "int register(int, int)", "int word(int, int)", "int look(int)", "int owner(int, int)",
            "int count(int)", "int gate(int, int)", "int reach()", "boolean reaches(int)", "int conserve()"));
        Set<String> seen = new TreeSet<>();
        for (Method m : UseOnceMachine.class.getDeclaredMethods()) {
            if (!Modifier.isPrivate(m.getModifiers())) {
                seen.add(name(m));
                Check.same(name(m) + " is public", Modifier.isPublic(m.getModifiers()), true);
                Check.same(name(m) + " is static", Modifier.isStatic(m.getModifiers()), false);
            }
        }
        Check.same("the methods", seen.toString(), due.toString());
        for (Field f : UseOnceMachine.class.getDeclaredFields()) {
            Check.same(f + " is private", Modifier.isPrivate(f.getModifiers()), true);
        }
        Constructor<?>[] makers = UseOnceMachine.class.getDeclaredConstructors();
        Check.same("constructors", makers.length, 1);
        Check.same("the constructor is public", Modifier.isPublic(makers[0].getModifiers()), true);
        Check.same("its parameters", makers[0].getParameterCount(), 0);
        Check.same("the class is final", Modifier.isFinal(UseOnceMachine.class.getModifiers()), true);
        Check.end();
    }

    private static String name(Method m) {
        StringBuilder text = new StringBuilder(m.getReturnType() + " " + m.getName() + "(");
        for (Class<?> type : m.getParameterTypes()) {
            text.append(text.charAt(text.length() - 1) == '(' ? "" : ", ").append(type);
        }
        return text.append(")").toString();
    }
}
