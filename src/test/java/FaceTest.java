import java.lang.reflect.Constructor;
import java.lang.reflect.Field;
import java.lang.reflect.Method;
import java.lang.reflect.Modifier;
import java.util.Set;
import java.util.TreeSet;

/** The face is the document's and nothing more; the program keeps to the rules that can be seen here. */
public final class FaceTest {
    private static final Set<String> METHODS = new TreeSet<>(Set.of(
        "int poke(int,int,int)", "int peek(int,int)", "boolean give(int,int,int)", "int register(int,int)",
        "boolean command(int,int,int)", "int control(int,int)", "boolean place(int,int,boolean)", "int pc(int)",
        "boolean user(int)", "boolean input(int,int,int)", "int run(int)", "int turn()", "int shadow(int,int)",
        "boolean traced(int,int)", "int count(int,int)"));

    public static void main(String[] args) {
        Check.due("public class", Modifier.isPublic(TwinHost.class.getModifiers()), true);
        Check.due("final class", Modifier.isFinal(TwinHost.class.getModifiers()), true);
        methods();
        constructors();
        for (Field field : TwinHost.class.getDeclaredFields()) {
            Check.due("private field " + field.getName(), Modifier.isPrivate(field.getModifiers()), true);
            if (Modifier.isStatic(field.getModifiers())) {
                Check.due("final constant " + field.getName(), Modifier.isFinal(field.getModifiers()), true);
            }
        }
        nested();
        Check.end();
    }

    private static void methods() {
        Set<String> found = new TreeSet<>();
        Set<String> faceNames = new TreeSet<>();
        for (String method : METHODS) {
            faceNames.add(method.substring(method.indexOf(' ') + 1, method.indexOf('(')));
        }
        for (Method method : TwinHost.class.getDeclaredMethods()) {
            if (Modifier.isPrivate(method.getModifiers())) {
                Check.due("private name " + method.getName(), faceNames.contains(method.getName()), false);
            } else {
                Check.due("static " + method, Modifier.isStatic(method.getModifiers()), false);
                found.add(signature(method));
            }
        }
        Check.due("methods " + found, found.equals(METHODS), true);
    }

    private static String signature(Method method) {
        StringBuilder text = new StringBuilder(method.getReturnType() + " " + method.getName() + "(");
        for (Class<?> type : method.getParameterTypes()) {
            text.append(text.charAt(text.length() - 1) == '(' ? "" : ",").append(type);
        }
        return text.append(')').toString();
    }

    private static void constructors() {
        Constructor<?>[] all = TwinHost.class.getDeclaredConstructors();
        Check.due("constructors", all.length, 1);
        Check.due("public constructor", Modifier.isPublic(all[0].getModifiers()), true);
        Check.due("constructor takes", all[0].getParameterCount(), 1);
    }

    private static void nested() {
        Class<?>[] all = TwinHost.class.getDeclaredClasses();
        Check.due("some twelve classes", all.length < 12, true);
        for (Class<?> one : all) {
            int modifiers = one.getModifiers();
            Check.due("static " + one, Modifier.isStatic(modifiers), true);
            Check.due("hidden " + one, Modifier.isPublic(modifiers) || Modifier.isProtected(modifiers), false);
            Check.due("nothing static but constants in " + one, hasOnlyConstants(one), true);
        }
    }

    private static boolean hasOnlyConstants(Class<?> one) {
        for (Field field : one.getDeclaredFields()) {
            if (Modifier.isStatic(field.getModifiers()) && !Modifier.isFinal(field.getModifiers())) {
                return false;
            }
        }
        return true;
    }
}
