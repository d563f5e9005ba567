import java.lang.reflect.Constructor;
import java.lang.reflect.Field;
import java.lang.reflect.Member;
import java.lang.reflect.Method;
import java.lang.reflect.Modifier;
import java.util.Arrays;
import java.util.Set;
import java.util.TreeSet;

/** The class has the document's face and nothing else that can be seen from outside. */
public final class FaceTest {
    private static final String[] FACE = {
        "void rom(int, int) IllegalArgumentException",
        "void chr(int, int) IllegalArgumentException",
        "void reset()",
        "int step()",
        "int run(int)",
        "boolean pass(int)",
        "int read(int)",
        "void write(int, int)",
        "void pad(int, int) IndexOutOfBoundsException",
        "int core(int) IndexOutOfBoundsException",
        "int picture(int) IndexOutOfBoundsException",
        "int memory(int)",
        "int oam(int) IndexOutOfBoundsException",
        "int cartridge(int) IndexOutOfBoundsException",
        "int sound(int) IndexOutOfBoundsException",
    };

    public static void main(String[] args) {
        Check check = new Check();
        Set<String> seen = new TreeSet<>();
        Set<String> names = new TreeSet<>();
        for (Method method : GameConsole.class.getDeclaredMethods()) {
            if (Modifier.isPublic(method.getModifiers())) {
                seen.add(signature(method));
                names.add(method.getName());
            } else {
                check.due(method + " is private", isPrivate(method), 1);
            }
        }
        for (Method method : GameConsole.class.getDeclaredMethods()) {
            if (!Modifier.isPublic(method.getModifiers())) {
                check.due(method + " has a public one's name", names.contains(method.getName()) ? 1 : 0, 0);
            }
        }
        for (String due : FACE) {
            check.due(due + " is there", seen.remove(due) ? 1 : 0, 1);
        }
        check.due("others that are public: " + seen, seen.size(), 0);
        for (Field field : GameConsole.class.getDeclaredFields()) {
            check.due(field + " is private", isPrivate(field), 1);
        }
        Constructor<?>[] constructors = GameConsole.class.getDeclaredConstructors();
        check.due("constructors", constructors.length, 1);
        check.due("constructor", constructors[0].toString().equals("public GameConsole(int)") ? 1 : 0, 1);
        check.due("public final", GameConsole.class.getModifiers(), Modifier.PUBLIC | Modifier.FINAL);
        for (Class<?> inside : GameConsole.class.getDeclaredClasses()) {
            check.due(inside + " is static", Modifier.isStatic(inside.getModifiers()) ? 1 : 0, 1);
        }
        check.finish();
    }

    private static int isPrivate(Member member) {
        return Modifier.isPrivate(member.getModifiers()) ? 1 : 0;
    }

    private static String signature(Method method) {
        StringBuilder text = new StringBuilder();
        text.append(method.getReturnType()).append(' ').append(method.getName());
        String parameters = Arrays.toString(method.getParameterTypes());
        text.append('(').append(parameters, 1, parameters.length() - 1).append(')');
        for (Class<?> thrown : method.getExceptionTypes()) {
            text.append(' ').append(thrown.getSimpleName());
        }
        return text.toString();
    }
}
