import java.io.IOException;
import java.lang.reflect.Constructor;
import java.lang.reflect.Field;
import java.lang.reflect.Method;
import java.lang.reflect.Modifier;
import java.nio.file.Files;
import java.nio.file.Path;
import java.util.Arrays;
import java.util.Set;
import java.util.TreeSet;
import java.util.regex.Matcher;
import java.util.regex.Pattern;

/** The public face of the document, and the rules of the language that a look at the class shows. */
public final class FaceTest {
    private static final Set<String> FACE = Set.of(
            "int thing(int, int)", "int outcome()", "int own()", "int begun()", "int deep()", "int told(int)",
            "int cls(int)", "int is(int, int)", "int v(int)", "int become(int, int)", "int link(int, int)",
            "int linked(int)", "int follow(int)", "int trade(int)", "int hold(int, int, int)",
            "int share(int, int)", "int holds(int)", "int size(int)", "long at(int, int)",
            "long lay(int, int, long)", "int set(int, int, int)", "int move(int, int, int, int, int)",
            "int run(int, int)", "int either(int, int, int)", "int gather(int, int)",
            "int keep(int, int, int, int)", "int things()");

    public static void main(String[] args) throws IOException {
        constants();
        members();
        inside();
        words();
        Due.end();
    }

    private static void constants() {
        Due.due("NONE", ClassRunner.NONE, -1);
        Due.due("FULL", ClassRunner.FULL, -2);
        Due.due("OUTSIDE", ClassRunner.OUTSIDE, -2000000001);
    }

    private static void members() {
        Set<String> seen = new TreeSet<>();
        Set<String> names = new TreeSet<>();
        for (Method method : ClassRunner.class.getDeclaredMethods()) {
            if (!Modifier.isPrivate(method.getModifiers())) {
                seen.add(signature(method));
                names.add(method.getName());
            }
        }
        Due.due("methods of the face: " + seen, seen.equals(FACE) ? 1 : 0, 1);
        for (Method method : ClassRunner.class.getDeclaredMethods()) {
            if (Modifier.isPrivate(method.getModifiers())) {
                Due.due("private " + method.getName() + " named as a public one",
                        names.contains(method.getName()) ? 1 : 0, 0);
            }
        }
        for (Field field : ClassRunner.class.getDeclaredFields()) {
            boolean constant = Set.of("NONE", "FULL", "OUTSIDE").contains(field.getName());
            Due.due("is public: " + field, Modifier.isPublic(field.getModifiers()) ? 1 : 0, constant ? 1 : 0);
            Due.due("is private: " + field, Modifier.isPrivate(field.getModifiers()) ? 1 : 0, constant ? 0 : 1);
        }
        Constructor<?>[] made = ClassRunner.class.getDeclaredConstructors();
        Due.due("constructors", made.length, 1);
        Due.due("constructor's parameters", made[0].getParameterCount(), 0);
        Due.due("constructor is public", Modifier.isPublic(made[0].getModifiers()) ? 1 : 0, 1);
        int modifiers = ClassRunner.class.getModifiers();
        Due.due("public final", Modifier.isPublic(modifiers) && Modifier.isFinal(modifiers) ? 1 : 0, 1);
    }

    private static String signature(Method method) {
        String types = Arrays.toString(method.getParameterTypes());
        return method.getReturnType() + " " + method.getName() + "(" + types.substring(1, types.length() - 1) + ")";
    }

    private static void inside() {
        Class<?>[] classes = ClassRunner.class.getDeclaredClasses();
        Due.due("at most twelve classes", classes.length < 12 ? 1 : 0, 1);
        for (Class<?> inner : classes) {
            Due.due("static " + inner, Modifier.isStatic(inner.getModifiers()) ? 1 : 0, 1);
            Due.due("not public " + inner, Modifier.isPublic(inner.getModifiers()) ? 1 : 0, 0);
            for (Field field : inner.getDeclaredFields()) {
                int modifiers = field.getModifiers();
                Due.due("static and not final: " + field,
                        Modifier.isStatic(modifiers) && !Modifier.isFinal(modifiers) ? 1 : 0, 0);
            }
        }
    }

    private static void words() throws IOException {
        String text = Files.readString(Path.of("src/main/java/ClassRunner.java"));
        String code = text.replaceAll("(?s)/\\*.*?\\*/", "").replaceAll("//[^\n]*", "");
        Pattern ruledOut = Pattern.compile("\\b(throws?|try|catch|finally|synchronized|assert|package|\\w+Exact"
                + "|System\\.(?!arraycopy)\\w+|Random|Thread|equals|hashCode|toString)\\b|->|::|\"");
        Matcher found = ruledOut.matcher(code);
        while (found.find()) {
            Due.due("word in the class: " + found.group(), 1, 0);
        }
        Matcher imports = Pattern.compile("import ([^;]+);").matcher(code);
        while (imports.find()) {
            String name = imports.group(1);
            boolean listed = Set.of("java.util.Arrays", "java.util.ArrayList", "java.util.List").contains(name);
            Due.due("import of " + name, listed ? 1 : 0, 1);
        }
    }
}
