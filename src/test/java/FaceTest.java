import java.lang.reflect.Constructor;
import java.lang.reflect.Field;
import java.lang.reflect.Method;
import java.lang.reflect.Modifier;
import java.util.Arrays;
import java.util.TreeSet;

/** The public face, and what rule 1 of LANGUAGE.md says about all else. */
public final class FaceTest {
    private static final String[] FACE = {
        "about(int) IndexOutOfBoundsException",
        "cell(int,int,int) IndexOutOfBoundsException,IllegalArgumentException",
        "compile()",
        "drop(int,int) IndexOutOfBoundsException",
        "merge() IllegalStateException",
        "number(int,int,int) IndexOutOfBoundsException,NoSuchElementException",
        "out(int) IndexOutOfBoundsException",
        "record(int) IndexOutOfBoundsException,IllegalArgumentException,UnsupportedOperationException",
        "size()",
        "table() IllegalArgumentException,UnsupportedOperationException",
        "type(long,int)",
        "variable() NoSuchElementException",
    };

    public static void main(String[] args) {
        Class<?> desk = MergeDesk.class;
        Check.same("public and final", desk.getModifiers(), Modifier.PUBLIC | Modifier.FINAL);
        TreeSet<String> face = new TreeSet<>();
        TreeSet<String> names = new TreeSet<>();
        for (Method method : desk.getDeclaredMethods()) {
            Check.same(method + " is public", Modifier.isPublic(method.getModifiers()), true);
            face.add(told(method));
            names.add(method.getName());
        }
        Check.same("the face", face, new TreeSet<>(Arrays.asList(FACE)));
        Constructor<?>[] constructors = desk.getDeclaredConstructors();
        Check.same("one constructor", constructors.length, 1);
        Check.same("without parameters", constructors[0].getParameterCount(), 0);
        for (Field field : desk.getDeclaredFields()) {
            Check.same(field + " is private", Modifier.isPrivate(field.getModifiers()), true);
        }
        for (Class<?> inside : desk.getDeclaredClasses()) {
            Check.same(inside + " is static", Modifier.isStatic(inside.getModifiers()), true);
            for (Method method : inside.getDeclaredMethods()) {
                Check.same(method + " has a name of its own", names.contains(method.getName()), false);
            }
        }
        Check.end();
    }

    private static String told(Method method) {
        StringBuilder text = new StringBuilder(method.getName()).append('(');
        for (Class<?> type : method.getParameterTypes()) {
            text.append(text.charAt(text.length() - 1) == '(' ? "" : ",").append(type.getSimpleName());
        }
        text.append(')');
        char before = ' ';
        for (Class<?> type : method.getExceptionTypes()) {
            text.append(before).append(type.getSimpleName());
            before = ',';
        }
        return text.toString();
    }
}
