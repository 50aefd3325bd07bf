import java.lang.reflect.Constructor;
import java.lang.reflect.Field;
import java.lang.reflect.Method;
import java.lang.reflect.Modifier;
import java.util.Arrays;
import java.util.Set;
import java.util.TreeSet;

/** The public face of the document: every method as it is told there, and no other member that can be seen. */
public final class FaceTest {
    private static final String I = " IndexOutOfBoundsException";
    private static final String A = " IllegalArgumentException";
    private static final String S = " IllegalStateException";
    private static final String[] FACE = {
        "int setRate(int,int)" + I + A,
        "int setPoints(int,int)" + I + A,
        "boolean toggleHoliday(int)" + A + S,
        "int setLimit(int,int)" + I + A,
        "int forward(int,int)" + I + A,
        "int deal(int,int,boolean,int,int,int)" + I + A + S,
        "int draw(int,int)" + I + A,
        "int roll(int,int,boolean)" + I + A + S,
        "long closeOut(int)" + I + S,
        "int left(int)" + I,
        "int rate(int)" + I,
        "int window(int)" + I,
        "long gain(int)" + I,
        "long exposure(int)" + I,
        "int settlementDay()",
        "long due(int,int,int)" + I + A,
        "long balance(int,int)" + I + A,
        "int pass(int)" + A + S,
        "int today()"};

    public static void main(String[] args) {
        Class<?> desk = Forwardroll.class;
        Check.holds("the class is public and final",
                Modifier.isPublic(desk.getModifiers()) && Modifier.isFinal(desk.getModifiers()));
        Check.equal("constructors", desk.getDeclaredConstructors().length, 1);
        for (Constructor<?> constructor : desk.getDeclaredConstructors()) {
            Check.holds("the constructor is public and takes nothing",
                    Modifier.isPublic(constructor.getModifiers()) && constructor.getParameterCount() == 0);
        }
        for (Field field : desk.getDeclaredFields()) {
            Check.holds("field " + field.getName() + " is private", Modifier.isPrivate(field.getModifiers()));
            Check.holds("field " + field.getName() + " is final, if it is static",
                    !Modifier.isStatic(field.getModifiers()) || Modifier.isFinal(field.getModifiers()));
        }
        methods(desk);
        Check.end("FaceTest");
    }

    private static void methods(Class<?> desk) {
        Set<String> open = new TreeSet<>();
        Set<String> openNames = new TreeSet<>();
        for (Method method : desk.getDeclaredMethods()) {
            if (!Modifier.isPrivate(method.getModifiers())) {
                Check.holds(method.getName() + " is public", Modifier.isPublic(method.getModifiers()));
                open.add(textOf(method));
                openNames.add(method.getName());
            }
        }
        Set<String> due = new TreeSet<>(Arrays.asList(FACE));
        Check.holds("the methods are " + due + ", found " + open, open.equals(due));
        for (Method method : desk.getDeclaredMethods()) {
            Check.holds("no private method bears a public name: " + method.getName(),
                    !Modifier.isPrivate(method.getModifiers()) || !openNames.contains(method.getName()));
        }
    }

    private static String textOf(Method method) {
        StringBuilder text = new StringBuilder();
        text.append(method.getReturnType().getSimpleName()).append(' ').append(method.getName()).append('(');
        String comma = "";
        for (Class<?> parameter : method.getParameterTypes()) {
            text.append(comma).append(parameter.getSimpleName());
            comma = ",";
        }
        text.append(')');
        for (Class<?> thrown : method.getExceptionTypes()) {
            text.append(' ').append(thrown.getSimpleName());
        }
        return text.toString();
    }
}
