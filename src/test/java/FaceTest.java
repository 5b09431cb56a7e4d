import java.io.IOException;
import java.lang.reflect.Constructor;
import java.lang.reflect.Field;
import java.lang.reflect.Method;
import java.lang.reflect.Modifier;
import java.nio.file.Files;
import java.nio.file.Path;
import java.util.ArrayList;
import java.util.Arrays;
import java.util.List;
import java.util.Set;
import java.util.TreeSet;
import java.util.regex.Pattern;
import java.util.stream.Collectors;

/** The class has the document's face and nothing besides, and none of what LANGUAGE.md plainly forbids. */
public final class FaceTest {
    /** Each method with what it declares to throw, in the document's order. */
    private static final String[] FACE = {
        "int prime(int): IllegalArgument IllegalState",
        "int algebra(int): IllegalArgument IllegalState",
        "int dial(int, int): IndexOutOfBounds IllegalArgument IllegalState",
        "int element(int): IndexOutOfBounds IllegalState",
        "int set(int, int, int): IndexOutOfBounds IllegalArgument",
        "int sum(int, int, int): IndexOutOfBounds IllegalArgument",
        "int product(int, int, int): IndexOutOfBounds IllegalArgument",
        "int scale(int, int, int): IndexOutOfBounds IllegalArgument",
        "int conjugate(int, int): IndexOutOfBounds IllegalArgument",
        "int power(int, int, int): IndexOutOfBounds IllegalArgument",
        "int invert(int, int): IndexOutOfBounds IllegalArgument IllegalState",
        "int series(int, int): IndexOutOfBounds IllegalArgument IllegalState",
        "int killer(int, int): IndexOutOfBounds IllegalArgument IllegalState",
        "int hang(int): IndexOutOfBounds IllegalState",
        "int clear(int): IndexOutOfBounds",
        "int mirror(int, int, int): IndexOutOfBounds IllegalArgument IllegalState",
        "int turn(int, int): IndexOutOfBounds IllegalArgument IllegalState",
        "int versor(int): IndexOutOfBounds IllegalState",
        "int run(int, int): IndexOutOfBounds IllegalArgument",
        "int at(int, int): IndexOutOfBounds",
        "int ofElement(int, int): IndexOutOfBounds IllegalArgument",
        "String text(int): IndexOutOfBounds",
        "int ofAlgebra(int, int): IndexOutOfBounds IllegalArgument",
        "int sign(int, int, int): IndexOutOfBounds",
        "int breaks(int, int): IndexOutOfBounds",
        "double meanSize():",
        "double lean(int): IndexOutOfBounds",
        "double poise():",
        "int many(int): IllegalArgument",
        "int apart(int, int): IndexOutOfBounds IllegalArgument",
        "int row(int, int): IndexOutOfBounds IllegalArgument",
        "int match(int, int): IndexOutOfBounds",
        "int scaleOf(int, int, int): IndexOutOfBounds",
        "long digest():"};

    private static final String[] FORBIDDEN = {
        "->", "::", "\\bimport\\b", "\\bpackage\\b", "\\btry\\b", "\\bcatch\\b", "\\bfinally\\b", "\\bsynchronized\\b",
        "\\bassert\\b", "Exact\\(", "@Override", "\\bequals\\(", "\\bhashCode\\(", "\\bObject\\b", "Math\\.", "System\\."};

    public static void main(String[] args) throws IOException {
        Answers is = new Answers();
        face(is);
        if (args.length > 0) {
            source(is, Files.readString(Path.of(args[0])));
        }
        is.end();
    }

    private static String told(Method method) {
        String types = Arrays.stream(method.getParameterTypes()).map(Class::getSimpleName).collect(Collectors.joining(", "));
        StringBuilder told = new StringBuilder(method.getReturnType().getSimpleName() + " " + method.getName() + "(" + types + "):");
        for (Class<?> thrown : method.getExceptionTypes()) {
            told.append(' ').append(thrown.getSimpleName().replace("Exception", ""));
        }
        return told.toString();
    }

    private static void face(Answers is) {
        Set<String> open = new TreeSet<>();
        Set<String> names = new TreeSet<>();
        for (Method method : Versorhall.class.getDeclaredMethods()) {
            if (!Modifier.isPrivate(method.getModifiers()) && !method.isSynthetic()) {
                open.add(told(method));
                names.add(method.getName());
                is.same(method + " is public", Modifier.isPublic(method.getModifiers()), true);
            }
        }
        is.same("the face", open, new TreeSet<>(Arrays.asList(FACE)));
        publicNames(is, names);
        for (Field field : Versorhall.class.getDeclaredFields()) {
            is.same(field + " is private", Modifier.isPrivate(field.getModifiers()), true);
        }
        Constructor<?>[] constructors = Versorhall.class.getConstructors();
        is.same("public constructors", constructors.length, 1);
        is.same("parameters of the constructor", constructors[0].getParameterCount(), 0);
        is.same("the class is public and final", Versorhall.class.getModifiers(), Modifier.PUBLIC | Modifier.FINAL);
        staticState(is);
    }

    private static List<Class<?>> allClasses() {
        List<Class<?>> all = new ArrayList<>(Arrays.asList(Versorhall.class.getDeclaredClasses()));
        all.add(Versorhall.class);
        return all;
    }

    private static void publicNames(Answers is, Set<String> names) {
        for (Class<?> one : allClasses()) {
            for (Method method : one.getDeclaredMethods()) {
                boolean hidden = one != Versorhall.class || Modifier.isPrivate(method.getModifiers());
                boolean borrowed = hidden && !method.isSynthetic() && names.contains(method.getName());
                is.same(method + " bears a public name", borrowed, false);
            }
        }
    }

    private static void staticState(Answers is) {
        List<Class<?>> all = allClasses();
        is.same("at most twelve classes", all.size() <= 12, true);
        for (Class<?> one : all) {
            int kept = 0;
            for (Field field : one.getDeclaredFields()) {
                if (Modifier.isStatic(field.getModifiers())) {
                    is.same(field + " is final", Modifier.isFinal(field.getModifiers()), true);
                } else {
                    kept++;
                }
            }
            is.same(one + " has some twenty fields at most", kept <= 20, true);
        }
    }

    private static void source(Answers is, String source) {
        String code = Pattern.compile("/\\*.*?\\*/|//[^\n]*|\"[^\"\n]*\"", Pattern.DOTALL).matcher(source).replaceAll(" ");
        for (String forbidden : FORBIDDEN) {
            boolean found = Pattern.compile(forbidden).matcher(code.replaceAll("Math\\.floorDiv", "")).find();
            is.same("the code has " + forbidden, found, false);
        }
        is.same("all signs are 1 to 127", source.chars().allMatch(c -> c > 0 && c < 128), true);
    }
}
