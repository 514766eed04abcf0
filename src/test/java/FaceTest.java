import java.lang.reflect.Constructor;
import java.lang.reflect.Field;
import java.lang.reflect.Method;
import java.lang.reflect.Modifier;
import java.util.Arrays;
import java.util.TreeSet;

/** The public face, and nothing beside it. */
public final class FaceTest {
    private static final Due DUE = new Due();
    private static final String OUT = "IndexOutOfBoundsException";
    private static final String[] METHODS = {
        "int want(int,boolean,int,long,int) " + OUT + ",IllegalArgumentException,UnsupportedOperationException",
        "int step(int,int) IllegalArgumentException", "boolean join(int) " + OUT, "int wire() ",
        "int node(int,int) " + OUT, "long received(int,int) " + OUT + ",NoSuchElementException",
        "int tape(int) " + OUT + ",NoSuchElementException", "boolean put(long,int) ", "int bit(int) " + OUT,
        "void flip(int) " + OUT, "int wipe() ", "int read() "};

    public static void main(String[] args) {
        DUE.equal("NONE", SharedWire.NONE, -1);
        DUE.equal("the class", Modifier.toString(SharedWire.class.getModifiers()), "public final");
        methods();
        fields();
        for (Constructor<?> made : SharedWire.class.getDeclaredConstructors()) {
            DUE.equal("constructor", made.toString(), "public SharedWire()");
        }
        DUE.end();
    }

    private static void methods() {
        TreeSet<String> open = new TreeSet<>();
        TreeSet<String> openNames = new TreeSet<>();
        for (Method method : SharedWire.class.getDeclaredMethods()) {
            if (!Modifier.isPrivate(method.getModifiers())) {
                open.add(written(method));
                openNames.add(method.getName());
            }
        }
        DUE.equal("methods", open.toString(), new TreeSet<>(Arrays.asList(METHODS)).toString());
        for (Method method : SharedWire.class.getDeclaredMethods()) {
            boolean isPrivate = Modifier.isPrivate(method.getModifiers());
            DUE.equal(method + " bears a public name", isPrivate && openNames.contains(method.getName()), false);
        }
    }

    private static String written(Method method) {
        return method.getReturnType() + " " + method.getName() + "(" + names(method.getParameterTypes()) + ") "
                + names(method.getExceptionTypes());
    }

    private static String names(Class<?>[] types) {
        StringBuilder text = new StringBuilder();
        for (Class<?> type : types) {
            text.append(text.length() == 0 ? "" : ",").append(type.getSimpleName());
        }
        return text.toString();
    }

    private static void fields() {
        for (Field field : SharedWire.class.getDeclaredFields()) {
            String kind = Modifier.toString(field.getModifiers());
            if (field.getName().equals("NONE")) {
                DUE.equal("NONE is", kind + " " + field.getType(), "public static final int");
            } else {
                DUE.equal(field + " is private", Modifier.isPrivate(field.getModifiers()), true);
            }
            boolean isStatic = Modifier.isStatic(field.getModifiers());
            DUE.equal(field + " is no static state", isStatic && !Modifier.isFinal(field.getModifiers()), false);
        }
    }
}
