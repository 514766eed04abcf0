import java.io.IOException;
import java.lang.reflect.Constructor;
import java.lang.reflect.Executable;
import java.lang.reflect.Field;
import java.lang.reflect.Method;
import java.lang.reflect.Modifier;
import java.nio.file.Files;
import java.nio.file.Path;
import java.util.ArrayList;
import java.util.Arrays;
import java.util.List;
import java.util.Set;
import java.util.TreeSet;
import java.util.regex.Matcher;
import java.util.regex.Pattern;

/** The rules of LANGUAGE.md that can be told from the class's members or from its text. */
public final class LanguageTest {
    private static final Due DUE = new Due();
    private static final Path SOURCE = Path.of("src/main/java/SharedWire.java");
    private static final int CLASS_LIMIT = 12;
    private static final int FIELD_LIMIT = 20;
    private static final int PARAMETER_LIMIT = 7;
    private static final int LINE_LIMIT = 60;

    private static final Set<Class<?>> CONSTANT_TYPES =
            Set.of(int.class, long.class, boolean.class, char.class, String.class);
    private static final Set<String> EXCEPTIONS = Set.of("IllegalStateException", "IllegalArgumentException",
            "IndexOutOfBoundsException", "ArithmeticException", "UnsupportedOperationException",
            "NoSuchElementException", "RuntimeException");
    private static final String[] NEVER_WRITTEN = {"->", "::", "[|&]=[^;]*(?:[=!]=|\\bis[A-Z])", "\\bpackage\\b",
        "\\bfinally\\b", "\\bsynchronized\\b", "\\bassert\\b", "\\bvar\\b", "\\bvolatile\\b", "\\bnative\\b",
        "\\bhashCode\\b", "\\btoString\\b", "\\bgetMessage\\b", "Exact\\b", "\\bThread\\b", "\\bRandom\\b",
        "\\bObject\\b", "\\bSystem\\.(?!arraycopy\\b)", "\\bstatic\\s*\\{", "\\bwhile\\s*\\(\\s*true\\b",
        "\\bfor\\s*\\(\\s*;"};

    public static void main(String[] args) throws IOException {
        List<Class<?>> classes = new ArrayList<>();
        collect(SharedWire.class, classes);
        DUE.equal("classes, at most " + CLASS_LIMIT, classes.size() <= CLASS_LIMIT, true);
        Set<String> face = openNames();
        for (Class<?> one : classes) {
            classInside(one);
            fields(one);
            methods(one, face);
        }
        String code = withoutCommentsAndTexts(Files.readString(SOURCE));
        words(code);
        exceptions(code);
        allMembersAreFound(code, classes);
        objectsAreMadeInConstructors(code);
        methodsAreShort(code);
        DUE.end();
    }

    private static void collect(Class<?> one, List<Class<?>> classes) {
        classes.add(one);
        for (Class<?> inside : one.getDeclaredClasses()) {
            collect(inside, classes);
        }
    }

    private static Set<String> openNames() {
        Set<String> names = new TreeSet<>();
        for (Method method : SharedWire.class.getDeclaredMethods()) {
            if (Modifier.isPublic(method.getModifiers())) {
                names.add(method.getName());
            }
        }
        return names;
    }

    /** Rule 1. */
    private static void classInside(Class<?> one) {
        if (one != SharedWire.class) {
            int kind = one.getModifiers();
            DUE.equal(one + " is static", Modifier.isStatic(kind), true);
            DUE.equal(one + " is seen", Modifier.isPublic(kind) || Modifier.isProtected(kind), false);
        }
    }

    /** Rules 3, 5 and 11. */
    private static void fields(Class<?> one) {
        int own = 0;
        for (Field field : one.getDeclaredFields()) {
            Class<?> type = field.getType();
            if (Modifier.isStatic(field.getModifiers())) {
                boolean isConstant = Modifier.isFinal(field.getModifiers()) && CONSTANT_TYPES.contains(type);
                DUE.equal(field + " is a constant", isConstant, true);
            } else {
                own++;
                Class<?> part = type.isArray() ? type.getComponentType() : type;
                boolean isListed = part.isPrimitive() || part == String.class || part.getNestHost() == SharedWire.class;
                DUE.equal(field + " has a listed type", isListed, true);
            }
        }
        DUE.equal(one + " has few fields", own <= FIELD_LIMIT, true);
    }

    /** Rules 1 and 11. */
    private static void methods(Class<?> one, Set<String> face) {
        for (Method method : one.getDeclaredMethods()) {
            boolean isPublic = Modifier.isPublic(method.getModifiers());
            DUE.equal(method + " bears a name of the face", !isPublic && face.contains(method.getName()), false);
        }
        List<Executable> all = new ArrayList<>(Arrays.asList(one.getDeclaredMethods()));
        for (Constructor<?> made : one.getDeclaredConstructors()) {
            all.add(made);
        }
        for (Executable each : all) {
            DUE.equal(each + " has few parameters", each.getParameterCount() <= PARAMETER_LIMIT, true);
        }
    }

    private static String withoutCommentsAndTexts(String source) {
        return source.replaceAll("(?s)/\\*.*?\\*/", "").replaceAll("//[^\n]*", "").replaceAll("\"[^\"\n]*\"", "\"\"");
    }

    /** Rules 2, 4, 6, 9, 10 and 13. */
    private static void words(String code) {
        for (String never : NEVER_WRITTEN) {
            Matcher found = Pattern.compile(never).matcher(code);
            DUE.equal(never, found.find() ? found.group() : "", "");
        }
        Matcher found = Pattern.compile("(?m)^import (.*);$").matcher(code);
        while (found.find()) {
            DUE.equal("import", found.group(1), "java.util.NoSuchElementException");
        }
    }

    /** Rule 6. */
    private static void exceptions(String code) {
        Matcher found = Pattern.compile("\\bthrow\\b([^;]*);").matcher(code);
        Pattern due = Pattern.compile(" new (\\w+)\\((?:\"\")?\\)");
        while (found.find()) {
            Matcher made = due.matcher(found.group(1));
            DUE.equal("throw" + found.group(1), made.matches() && EXCEPTIONS.contains(made.group(1)), true);
        }
    }

    /** Else the two below would tell nothing. */
    private static void allMembersAreFound(String code, List<Class<?>> classes) {
        int methods = 0;
        for (Class<?> one : classes) {
            methods += one.getDeclaredMethods().length;
        }
        long found = members(code).stream().filter(member -> !isConstructor(member)).count();
        DUE.equal("methods found in the text", found, methods);
    }

    private static boolean isConstructor(String[] member) {
        return member[0].matches("\\s*(?:public )?[A-Z]\\w*\\(.*");
    }

    /** All calls of a run live in one room: what no call makes need not be counted. */
    private static void objectsAreMadeInConstructors(String code) {
        for (String[] member : members(code)) {
            boolean makes = Pattern.compile("(?<!throw )\\bnew\\b").matcher(String.join("\n", member)).find();
            DUE.equal(member[0] + " makes an object", makes && !isConstructor(member), false);
        }
    }

    /** Rule 11. */
    private static void methodsAreShort(String code) {
        for (String[] member : members(code)) {
            DUE.equal(member[0] + " is short", member.length <= LINE_LIMIT, true);
        }
    }

    /** Constructors and methods, each from its first line to the brace that stands below that line's beginning. */
    private static List<String[]> members(String code) {
        List<String[]> all = new ArrayList<>();
        String head = "(?:(?:public|private|static|final) )*(?:[\\w\\[\\]]+ )?\\w+\\(";
        Matcher found = Pattern.compile("(?ms)^( {4}| {8})" + head + "[^;{]*\\{$.*?^\\1\\}$").matcher(code);
        while (found.find()) {
            all.add(found.group().split("\n"));
        }
        return all;
    }
}
