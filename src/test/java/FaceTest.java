import java.lang.reflect.Constructor;
import java.lang.reflect.Field;
import java.lang.reflect.Method;
import java.lang.reflect.Modifier;
import java.util.Arrays;
import java.util.Set;
import java.util.TreeSet;

/** The public face: just the members of the document, with what they throw, and no other in sight. */
public final class FaceTest {
    private static final String[] METHODS = {
        "int tick() IllegalStateException",
        "int clock()",
        "int state(int,int,int,int,int) IllegalArgumentException,IllegalStateException,NoSuchElementException",
        "boolean queue(int,int,int,int,int)",
        "int commit() IllegalArgumentException,IllegalStateException,NoSuchElementException",
        "int failed()",
        "int value(int,int,int) IllegalArgumentException,NoSuchElementException",
        "boolean has(int,int,int)",
        "long sum(int,int,int,int) IllegalArgumentException",
        "int runs(int,int) IllegalArgumentException",
        "int run(int,int,int,int) IllegalArgumentException,IndexOutOfBoundsException",
        "int rows()",
        "int row(int,int) IllegalArgumentException,IndexOutOfBoundsException",
        "int changes(int,int) IllegalArgumentException",
        "int relation(int,int,int,int) IllegalArgumentException",
        "int join(int,int,int,int) IllegalArgumentException",
    };

    public static void main(String[] args) {
        Due due = new Due();
        Class<?> face = TwoTimesTable.class;
        due.is("the class is public and final", Modifier.PUBLIC | Modifier.FINAL, face.getModifiers());

        Set<String> seen = new TreeSet<>();
        for (Method method : face.getDeclaredMethods()) {
            if (!Modifier.isPrivate(method.getModifiers())) {
                seen.add(text(method));
                due.is(method.getName() + " is public alone", Modifier.PUBLIC, method.getModifiers());
            }
        }
        Set<String> named = new TreeSet<>(Arrays.asList(METHODS));
        if (!seen.equals(named)) {
            System.out.println("due are  " + named + "\nthere are " + seen);
        }
        due.is("the methods are those of the document", true, seen.equals(named));

        for (Field field : face.getDeclaredFields()) {
            boolean isNone = field.getName().equals("NONE");
            due.is(field.getName() + " is private but for NONE", !isNone, Modifier.isPrivate(field.getModifiers()));
        }
        Constructor<?>[] constructors = face.getDeclaredConstructors();
        due.is("constructors", 1, constructors.length);
        due.is("the constructor's parameters", 0, constructors[0].getParameterCount());
        due.is("the constructor is public", Modifier.PUBLIC, constructors[0].getModifiers());
        due.is("NONE", -1, TwoTimesTable.NONE);
        due.end("FaceTest");
    }

    private static String text(Method method) {
        StringBuilder out = new StringBuilder(method.getReturnType().getSimpleName());
        out.append(' ').append(method.getName()).append('(').append(names(method.getParameterTypes(), false));
        out.append(')');
        if (method.getExceptionTypes().length > 0) {
            out.append(' ').append(names(method.getExceptionTypes(), true));
        }
        return out.toString();
    }

    private static String names(Class<?>[] types, boolean sorted) {
        String[] names = new String[types.length];
        for (int i = 0; i < types.length; i++) {
            names[i] = types[i].getSimpleName();
        }
        if (sorted) {
            Arrays.sort(names);
        }
        return String.join(",", names);
    }
}
