import java.lang.reflect.Constructor;
import java.lang.reflect.Executable;
import java.lang.reflect.Field;
import java.lang.reflect.Member;
import java.lang.reflect.Method;
import java.lang.reflect.Modifier;
import java.util.Arrays;
import java.util.TreeSet;
import java.util.stream.Collectors;

/** The public face is the document's, and nothing else of the class is seen from outside (LANGUAGE.md, rule 1). */
public final class FaceTest {
    private static final String ARGUMENT = " IllegalArgumentException";
    private static final String BOTH = " IllegalArgumentException IllegalStateException";

    private static final String[] METHODS = {
        "long fund(int,int,int)" + BOTH,
        "boolean holiday(int)" + ARGUMENT,
        "int tell(int,int,boolean,int,int,int,int,int)" + BOTH,
        "boolean hold(int,int,boolean)" + BOTH,
        "int rank(int,int,boolean)" + BOTH,
        "int link(int,int)" + BOTH,
        "int cancel(int,int)" + BOTH,
        "int nextDay() IllegalStateException",
        "int goTo(int)" + ARGUMENT,
        "long has(int,int)" + ARGUMENT,
        "int trade(int,int)" + ARGUMENT,
        "int settled(int,int)",
        "int business(int,int)" + ARGUMENT,
        "int date(int)" + ARGUMENT,
        "int count(int)" + ARGUMENT,
        "int astray()",
    };

    public static void main(String[] args) {
        Check.due("the class is final and public", "public final", () -> Modifier.toString(SettleHouse.class.getModifiers()));
        TreeSet<String> methods = new TreeSet<>();
        TreeSet<String> names = new TreeSet<>();
        for (Method method : SettleHouse.class.getDeclaredMethods()) {
            if (!isPrivate(method)) {
                methods.add(text(method));
                names.add(method.getName());
                Check.due(method + " is public", true, () -> Modifier.isPublic(method.getModifiers()));
            }
        }
        Check.due("the methods", new TreeSet<>(Arrays.asList(METHODS)), () -> methods);
        for (Method method : SettleHouse.class.getDeclaredMethods()) {
            Check.due(method + " bears a public name", false, () -> isPrivate(method) && names.contains(method.getName()));
        }
        for (Field field : SettleHouse.class.getDeclaredFields()) {
            Check.due(field + " is private or NONE", true, () -> isPrivate(field) || field.getName().equals("NONE"));
        }
        Constructor<?>[] constructors = SettleHouse.class.getDeclaredConstructors();
        Check.due("the constructors", "[public SettleHouse()]", () -> Arrays.toString(constructors));
        Check.finish();
    }

    private static boolean isPrivate(Member member) {
        return Modifier.isPrivate(member.getModifiers());
    }

    private static String text(Method method) {
        return method.getReturnType().getName() + " " + method.getName() + "(" + parameters(method) + ")"
                + Arrays.stream(method.getExceptionTypes()).map(e -> " " + e.getSimpleName()).sorted().collect(Collectors.joining());
    }

    private static String parameters(Executable method) {
        return Arrays.stream(method.getParameterTypes()).map(Class::getName).collect(Collectors.joining(","));
    }
}
