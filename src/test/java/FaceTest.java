import java.io.IOException;
import java.lang.reflect.Constructor;
import java.lang.reflect.Field;
import java.lang.reflect.Method;
import java.lang.reflect.Modifier;
import java.nio.file.Files;
import java.nio.file.Path;
import java.util.Arrays;
import java.util.List;
import java.util.Set;
import java.util.TreeSet;
import java.util.regex.Pattern;
import java.util.stream.Collectors;

/** The class has the document's face and nothing besides, and none of what LANGUAGE.md plainly forbids. */
public final class FaceTest {
    private static final String[] FACE = {
        "int prime(int)", "int algebra(int)", "int dial(int, int)", "int element(int)", "int set(int, int, int)",
        "int sum(int, int, int)", "int product(int, int, int)", "int scale(int, int, int)", "int conjugate(int, int)",
        "int power(int, int, int)", "int invert(int, int)", "int series(int, int)", "int killer(int, int)",
        "int hang(int)", "int clear(int)", "int mirror(int, int, int)", "int turn(int, int)", "int versor(int)",
        "int run(int, int)", "int at(int, int)", "int ofElement(int, int)", "String text(int)",
        "int ofAlgebra(int, int)", "int sign(int, int, int)", "int breaks(int, int)", "double meanSize()",
        "double lean(int)", "double poise()", "int many(int)", "int apart(int, int)", "int row(int, int)",
        "int match(int, int)", "int scaleOf(int, int, int)", "long digest()"};

    private static final String[] FORBIDDEN = {
        "->", "::", "\\bimport\\b", "\\bpackage\\b", "\\btry\\b", "\\bcatch\\b", "\\bfinally\\b", "\\bsynchronized\\b",
        "\\bassert\\b", "Exact\\(", "@Override", "\\bequals\\(", "\\bhashCode\\(", "\\bObject\\b", "Math\\.", "System\\."};

    public static void main(String[] args) throws IOException {
        Answers is = new Answers();
        face(is);
        if (args.length > 0) {
            source(is, Files.readString(Path.of(args[0])));
        }
        is.end();
    }

    private static String told(Method method) {
        String types = Arrays.stream(method.getParameterTypes()).map(Class::getSimpleName).collect(Collectors.joining(", "));
        return method.getReturnType().getSimpleName() + " " + method.getName() + "(" + types + ")";
    }

    private static void face(Answers is) {
        Set<String> open = new TreeSet<>();
        Set<String> names = new TreeSet<>();
        for (Method method : Versorhall.class.getDeclaredMethods()) {
            if (!Modifier.isPrivate(method.getModifiers()) && !method.isSynthetic()) {
                open.add(told(method));
                names.add(method.getName());
                is.same(method + " is public", Modifier.isPublic(method.getModifiers()), true);
            }
        }
        is.same("the face", open, new TreeSet<>(Arrays.asList(FACE)));
        for (Method method : Versorhall.class.getDeclaredMethods()) {
            boolean hidden = Modifier.isPrivate(method.getModifiers()) && !method.isSynthetic();
            is.same(method + " bears a public name", hidden && names.contains(method.getName()), false);
        }
        for (Field field : Versorhall.class.getDeclaredFields()) {
            is.same(field + " is private", Modifier.isPrivate(field.getModifiers()), true);
        }
        Constructor<?>[] constructors = Versorhall.class.getConstructors();
        is.same("public constructors", constructors.length, 1);
        is.same("parameters of the constructor", constructors[0].getParameterCount(), 0);
        is.same("the class is public and final", Versorhall.class.getModifiers(), Modifier.PUBLIC | Modifier.FINAL);
        staticState(is);
    }

    private static void staticState(Answers is) {
        List<Class<?>> all = new java.util.ArrayList<>(Arrays.asList(Versorhall.class.getDeclaredClasses()));
        all.add(Versorhall.class);
        is.same("at most twelve classes", all.size() <= 12, true);
        for (Class<?> one : all) {
            int kept = 0;
            for (Field field : one.getDeclaredFields()) {
                if (Modifier.isStatic(field.getModifiers())) {
                    is.same(field + " is final", Modifier.isFinal(field.getModifiers()), true);
                } else {
                    kept++;
                }
            }
            is.same(one + " has some twenty fields at most", kept <= 20, true);
        }
    }

    private static void source(Answers is, String source) {
        String code = Pattern.compile("/\\*.*?\\*/|//[^\n]*|\"[^\"\n]*\"", Pattern.DOTALL).matcher(source).replaceAll(" ");
        for (String forbidden : FORBIDDEN) {
            boolean found = Pattern.compile(forbidden).matcher(code.replaceAll("Math\\.floorDiv", "")).find();
            is.same("the code has " + forbidden, found, false);
        }
        is.same("all signs are 1 to 127", source.chars().allMatch(c -> c > 0 && c < 128), true);
    }
}
