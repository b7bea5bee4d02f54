import java.lang.reflect.Constructor;
import java.lang.reflect.Field;
import java.lang.reflect.Method;
import java.lang.reflect.Modifier;
import java.util.Arrays;
import java.util.TreeSet;

/** The public face: what the document lists, and no other member that can be seen from outside. */
public final class FaceTest {
    public static void main(String[] args) {
        Class<?> face = PatternRunner.class;
        Check.isTrue("the class is public and final",
            Modifier.isPublic(face.getModifiers()) && Modifier.isFinal(face.getModifiers()));

        TreeSet<String> seen = new TreeSet<>();
        TreeSet<String> hidden = new TreeSet<>();
        for (Method method : face.getDeclaredMethods()) {
            if (Modifier.isPrivate(method.getModifiers())) {
                hidden.add(method.getName());
            } else {
                seen.add(Modifier.toString(method.getModifiers()) + " " + method.getReturnType()
                    + " " + method.getName() + Arrays.toString(method.getParameterTypes())
                    + Arrays.toString(method.getExceptionTypes()));
            }
        }
        String noArguments = "[]";
        String one = "[int]";
        TreeSet<String> due = new TreeSet<>();
        due.add("public int type[long, int]" + thrown("IllegalArgumentException"));
        due.add("public int pattern" + one + thrown("IllegalArgumentException"));
        due.add("public int text" + noArguments + thrown("IllegalStateException"));
        due.add("public int start" + one + thrown("IllegalArgumentException"));
        due.add("public int find" + noArguments + thrown("UnsupportedOperationException"));
        due.add("public int from" + one + "[]");
        due.add("public int to" + one + "[]");
        due.add("public int steps" + noArguments + "[]");
        due.add("public int replace" + noArguments + thrown("UnsupportedOperationException"));
        due.add("public char result" + one + "[class java.util.NoSuchElementException]");
        Check.isText("the methods", due.toString(), seen.toString());

        for (Method method : face.getMethods()) {
            Check.isTrue("no private method is named " + method.getName(),
                !hidden.contains(method.getName()));
        }
        for (Field field : face.getDeclaredFields()) {
            Check.isTrue("the field " + field.getName() + " is private",
                Modifier.isPrivate(field.getModifiers()));
            Check.isTrue("the static field " + field.getName() + " is final",
                !Modifier.isStatic(field.getModifiers()) || Modifier.isFinal(field.getModifiers()));
        }
        Constructor<?>[] constructors = face.getDeclaredConstructors();
        Check.is("how many constructors there are", 1, constructors.length);
        Check.isTrue("the constructor is public and takes nothing",
            Modifier.isPublic(constructors[0].getModifiers())
                && constructors[0].getParameterCount() == 0);
        Check.end();
    }

    private static String thrown(String name) {
        return "[class java.lang." + name + "]";
    }
}
