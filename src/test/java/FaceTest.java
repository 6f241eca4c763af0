import java.io.IOException;
import java.lang.reflect.Constructor;
import java.lang.reflect.Field;
import java.lang.reflect.Method;
import java.lang.reflect.Modifier;
import java.nio.file.Files;
import java.nio.file.Path;
import java.util.ArrayList;
import java.util.Collections;
import java.util.List;
import java.util.TreeSet;
import java.util.regex.Pattern;

/** The class's face, and the rules of the language that can be seen from outside or in the file's words. */
public final class FaceTest {
    private static final Check check = new Check();

    public static void main(String[] args) throws IOException {
        faceIsTheDocuments();
        nothingElseIsVisible();
        classesInside();
        wordsThatAreNotInTheFile();
        check.end();
    }

    private static void faceIsTheDocuments() {
        String[] due = {
            "boolean feed(int, int)", "boolean line(int, int, int, int)", "boolean load(int)", "boolean mark(int)", "boolean word(int)",
            "int call(int, int, int)", "int follow(int, int)", "int module(int)", "int output(int, int)", "int pc(int)", "int peek(int)",
            "int register(int, int)", "int rewrite(int)", "int run(int)", "int state(int)", "int trace(int, int)", "int verify(int)", "void clear()"};
        List<String> got = new ArrayList<>();
        for (Method method : FencedModules.class.getDeclaredMethods()) {
            if (Modifier.isPublic(method.getModifiers())) {
                StringBuilder text = new StringBuilder(method.getReturnType() + " " + method.getName() + "(");
                for (int n = 0; n < method.getParameterCount(); n++) {
                    text.append(n == 0 ? "" : ", ").append(method.getParameterTypes()[n]);
                }
                got.add(text.append(")").toString());
                check.no("a public method is static", Modifier.isStatic(method.getModifiers()));
            }
        }
        Collections.sort(got);
        check.sameText("the public methods", got.toString(), List.of(due).toString());
        Constructor<?>[] constructors = FencedModules.class.getDeclaredConstructors();
        check.same("constructors", constructors.length, 1);
        check.same("parameters of the constructor", constructors[0].getParameterCount(), 0);
        check.yes("the constructor is public", Modifier.isPublic(constructors[0].getModifiers()));
        check.yes("the class is public and final", Modifier.isPublic(FencedModules.class.getModifiers()) && Modifier.isFinal(FencedModules.class.getModifiers()));
    }

    private static void nothingElseIsVisible() {
        TreeSet<String> publicNames = new TreeSet<>();
        for (Method method : FencedModules.class.getDeclaredMethods()) {
            if (Modifier.isPublic(method.getModifiers())) {
                publicNames.add(method.getName());
            } else {
                check.yes(method + " is private", Modifier.isPrivate(method.getModifiers()) || method.isSynthetic());
            }
        }
        for (Field field : FencedModules.class.getDeclaredFields()) {
            check.yes(field + " is private", Modifier.isPrivate(field.getModifiers()) || field.isSynthetic());
        }
        for (Class<?> one : allClasses()) {
            for (Method method : one.getDeclaredMethods()) {
                boolean isPrivate = Modifier.isPrivate(method.getModifiers());
                check.no(method + " is private and has a public method's name", isPrivate && publicNames.contains(method.getName()));
                check.no(method + " is a lambda", method.getName().startsWith("lambda$"));
            }
        }
    }

    private static List<Class<?>> allClasses() {
        List<Class<?>> all = new ArrayList<>(List.of(FencedModules.class.getDeclaredClasses()));
        all.add(FencedModules.class);
        return all;
    }

    private static void classesInside() {
        List<Class<?>> all = allClasses();
        check.yes("at most some twelve classes", all.size() <= 13);
        for (Class<?> one : all) {
            if (one != FencedModules.class) {
                check.yes(one + " is static", Modifier.isStatic(one.getModifiers()));
                check.no(one + " is public", Modifier.isPublic(one.getModifiers()) || Modifier.isProtected(one.getModifiers()));
            }
            int fields = 0;
            for (Field field : one.getDeclaredFields()) {
                if (!Modifier.isStatic(field.getModifiers())) {
                    fields++;
                } else if (!field.isSynthetic()) {
                    check.yes(field + " is a constant", Modifier.isFinal(field.getModifiers()) && mayBeConstant(field.getType()));
                }
            }
            check.yes(one + " has some twenty fields at most", fields <= 24);
            for (Method method : one.getDeclaredMethods()) {
                check.yes(method + " takes at most seven", method.getParameterCount() <= 7);
            }
        }
    }

    private static boolean mayBeConstant(Class<?> type) {
        Class<?> part = type.isArray() ? type.getComponentType() : type;
        boolean isNumber = part == int.class || part == long.class || part == char.class;
        return isNumber || part.isEnum() || (type.isArray() ? part == byte.class : part == boolean.class || part == String.class);
    }

    private static void wordsThatAreNotInTheFile() throws IOException {
        String text = Files.readString(Path.of("src/main/java/FencedModules.java"));
        String code = text.replaceAll("(?s)/\\*.*?\\*/", "").replaceAll("//[^\n]*", "");
        String[] forbidden = {"\\bthrow\\b", "\\bthrows\\b", "\\btry\\b", "\\bcatch\\b", "\\bsynchronized\\b", "\\bassert\\b", "::", "\\bpackage\\b",
            "\\bprotected\\b", "\\bstatic *\\{", "Exact\\b", "\\bSystem\\.(?!arraycopy)", "\\bThread\\b", "\\bhashCode\\b"};
        for (String word : forbidden) {
            check.no("the file has " + word, Pattern.compile(word).matcher(code).find());
        }
        for (String line : code.split("\n")) {
            check.yes("another import than is listed: " + line, !line.startsWith("import") || line.matches("import java\\.util\\.(Arrays|ArrayList|List|Iterator);\\s*"));
        }
        for (char c : text.toCharArray()) {
            check.yes("characters 0 to 255 alone", c < 256);
        }
    }
}
