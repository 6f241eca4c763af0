import java.io.IOException;
import java.lang.reflect.Constructor;
import java.lang.reflect.Field;
import java.lang.reflect.Method;
import java.lang.reflect.Modifier;
import java.nio.file.Files;
import java.nio.file.Path;
import java.util.ArrayList;
import java.util.Collections;
import java.util.List;
import java.util.TreeSet;
import java.util.regex.Pattern;

/** The class's face, and the rules of the language that can be seen from outside or in the file's words. */
public final class FaceTest {
    private static final Check check = new Check();

    public static void main(String[] args) throws IOException {
        faceIsTheDocuments();
        nothingElseIsVisible();
        classesInside();
        wordsThatAreNotInTheFile();
        check.end();
    }

    private static void faceIsTheDocuments() {
        String[] due = {
            "boolean feed(int, int)", "boolean line(int, int, int, int)", "boolean load(int)", "boolean mark(int)", "boolean word(int)",
            "int call(int, int, int)", "int follow(int, int)", "int module(int)", "int output(int, int)", "int pc(int)", "int peek(int)",
            "int register(int, int)", "int rewrite(int)", "int run(int)", "int state(int)", "int trace(int, int)", "int verify(int)", "void clear()"};
        List<String> got = new ArrayList<>();
        for (Method method : FencedModules.class.getDeclaredMethods()) {
            if (Modifier.isPublic(method.getModifiers())) {
                StringBuilder text = new StringBuilder(method.getReturnType() + " " + method.getName() + "(");
                for (int n = 0; n < method.getParameterCount(); n++) {
                    text.append(n == 0 ? "" : ", ").append(method.getParameterTypes()[n]);
                }
                got.add(text.append(")").toString());
                check.no("a public method is static", Modifier.isStatic(method.getModifiers()));
            }
        }
        Collections.sort(got);
        check.sameText("the public methods", got.toString(), List.of(due).toString());
        Constructor<?>[] constructors = FencedModules.class.getDeclaredConstructors();
        check.same("constructors", constructors.length, 1);
        check.same("parameters of the constructor", constructors[0].getParameterCount(), 0);
        check.yes("the constructor is public", Modifier.isPublic(constructors[0].getModifiers()));
        check.yes("the class is public and final", Modifier.isPublic(FencedModules.class.getModifiers()) && Modifier.isFinal(FencedModules.class.getModifiers()));
    }

    private static void nothingElseIsVisible() {
        TreeSet<String> publicNames = new TreeSet<>();
        for (Method method : FencedModules.class.getDeclaredMethods()) {
            if (Modifier.isPublic(method.getModifiers())) {
                publicNames.add(method.getName());
            } else {
                check.yes(method + " is private", Modifier.isPrivate(method.getModifiers()));
            }
        }
        for (Field field : FencedModules.class.getDeclaredFields()) {
            check.yes(field + " is private", Modifier.isPrivate(field.getModifiers()));
        }
        for (Class<?> inside : FencedModules.class.getDeclaredClasses()) {
            for (Method method : inside.getDeclaredMethods()) {
                check.no(method + " has a public method's name", publicNames.contains(method.getName()));
            }
        }
    }

    private static void classesInside() {
        List<Class<?>> all = new ArrayList<>(List.of(FencedModules.class.getDeclaredClasses()));
        check.yes("at most some twelve classes", all.size() + 1 <= 12);
        for (Class<?> inside : all) {
            check.yes(inside + " is static", Modifier.isStatic(inside.getModifiers()));
            check.no(inside + " is public", Modifier.isPublic(inside.getModifiers()) || Modifier.isProtected(inside.getModifiers()));
        }
        all.add(FencedModules.class);
        for (Class<?> one : all) {
            int fields = 0;
            for (Field field : one.getDeclaredFields()) {
                if (Modifier.isStatic(field.getModifiers())) {
                    check.yes(field + " is a constant", Modifier.isFinal(field.getModifiers()) && field.getType() == int.class);
                } else {
                    fields++;
                }
            }
            check.yes(one + " has at most twenty fields", fields <= 20);
            for (Method method : one.getDeclaredMethods()) {
                check.yes(method + " takes at most seven", method.getParameterCount() <= 7);
            }
        }
    }

    private static void wordsThatAreNotInTheFile() throws IOException {
        String text = Files.readString(Path.of("src/main/java/FencedModules.java"));
        String code = text.replaceAll("(?s)/\\*.*?\\*/", "").replaceAll("//[^\n]*", "");
        String[] forbidden = {"\\bthrow\\b", "\\bthrows\\b", "\\btry\\b", "\\bcatch\\b", "\\bsynchronized\\b", "\\bassert\\b", "->", "::", "\\bpackage\\b",
            "\\bprotected\\b", "\\bwhile *\\( *true", "\\bfor *\\( *;", "static *\\{", "Exact\\b", "\\bSystem\\.(?!arraycopy)", "\\bstatic (?!final)[\\w\\[\\]]+ \\w+ *[=;]"};
        for (String word : forbidden) {
            check.no("the file has " + word, Pattern.compile(word).matcher(code).find());
        }
        for (String line : code.split("\n")) {
            check.yes("only Arrays is imported: " + line, !line.startsWith("import") || line.equals("import java.util.Arrays;"));
        }
        for (char c : text.toCharArray()) {
            check.yes("characters 0 to 255 alone", c < 256);
        }
    }
}
