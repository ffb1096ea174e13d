import java.io.IOException;
import java.lang.reflect.Constructor;
import java.lang.reflect.Field;
import java.lang.reflect.Method;
import java.lang.reflect.Modifier;
import java.nio.file.Files;
import java.nio.file.Path;
import java.util.Arrays;
import java.util.HashSet;
import java.util.Set;
import java.util.TreeSet;
import java.util.regex.Matcher;
import java.util.regex.Pattern;

/** The public face of the document, and the rules of LANGUAGE.md that a look at the source can tell. */
public final class FaceTest {
    private static final String[] FACE = {"int feed(int,int,int,int,int)", "boolean end(int)", "int text()", "int fault()",
        "int now(int)", "int item(int,int)", "int loss(int,int)", "int rate(int,int)", "int covered(int,int,int)",
        "int balance(int,int)", "int closing(int,int,int)", "int would(int,int,int)", "int needs(int,int)",
        "int enact(int,int,int)", "int expect(int,int,int)", "int arises(int,boolean,int,int,int)", "int settle(int)",
        "int loses(int,int,int)", "int yearEnd()", "int undo()"};
    private static final String[] BARRED = {"->", "::", "Exact\\(", "\\bsynchronized\\b", "\\bassert\\b", "\\bfinally\\b",
        "\\btry\\b", "\\bcatch\\b", "\\bprotected\\b", "\\bSystem\\.(?!arraycopy)", "\\bThread\\b", "\\bRandom\\b",
        "\\bimport (?!java\\.util\\.NoSuchElementException;)", "\\bpackage\\b", "\\bstatic \\{"};
    private static final Checks CHECKS = new Checks();

    public static void main(String[] args) throws IOException {
        methods();
        constructorsAndFields();
        classesInside();
        source(Files.readString(Path.of("src/main/java/DeferredDesk.java")));
        CHECKS.finish();
    }

    private static void methods() {
        Set<String> found = new TreeSet<>();
        Set<String> open = new HashSet<>();
        for (Method method : DeferredDesk.class.getDeclaredMethods()) {
            if (Modifier.isPublic(method.getModifiers())) {
                String parameters = String.join(",", Arrays.stream(method.getParameterTypes()).map(Class::getName).toList());
                found.add(method.getReturnType().getName() + " " + method.getName() + "(" + parameters + ")");
                open.add(method.getName());
            }
        }
        CHECKS.due("the methods are those of the document: " + found, found.equals(new TreeSet<>(Arrays.asList(FACE))) ? 1 : 0, 1);
        for (Method method : DeferredDesk.class.getDeclaredMethods()) {
            boolean isOpen = Modifier.isPublic(method.getModifiers());
            boolean hidden = Modifier.isPrivate(method.getModifiers()) && !open.contains(method.getName());
            CHECKS.due(method + " is of the face, or private and of another name", isOpen || hidden || method.isSynthetic() ? 1 : 0, 1);
        }
    }

    private static void constructorsAndFields() {
        CHECKS.due("final", Modifier.isFinal(DeferredDesk.class.getModifiers()) ? 1 : 0, 1);
        Constructor<?>[] constructors = DeferredDesk.class.getDeclaredConstructors();
        CHECKS.due("constructors", constructors.length, 1);
        CHECKS.due("of no parameter", constructors[0].getParameterCount(), 0);
        for (Field field : DeferredDesk.class.getDeclaredFields()) {
            boolean isOpen = field.getName().equals("NONE") && Modifier.isPublic(field.getModifiers());
            CHECKS.due(field + " is private", isOpen || Modifier.isPrivate(field.getModifiers()) ? 1 : 0, 1);
        }
    }

    private static void classesInside() {
        Class<?>[] inside = DeferredDesk.class.getDeclaredClasses();
        CHECKS.due("twelve classes at most", inside.length <= 11 ? 1 : 0, 1);
        for (Class<?> one : inside) {
            boolean shut = !Modifier.isPublic(one.getModifiers()) && !Modifier.isProtected(one.getModifiers());
            CHECKS.due(one + " is static and not open", shut && Modifier.isStatic(one.getModifiers()) ? 1 : 0, 1);
            long fields = Arrays.stream(one.getDeclaredFields()).filter(f -> !Modifier.isStatic(f.getModifiers())).count();
            CHECKS.due(one + " has twenty fields at most", fields <= 20 ? 1 : 0, 1);
        }
    }

    private static void source(String source) {
        String code = source.replaceAll("(?s)/\\*.*?\\*/", "").replaceAll("//[^\n]*", "");
        for (String barred : BARRED) {
            Matcher matcher = Pattern.compile(barred).matcher(code);
            CHECKS.due("the code has no " + barred, matcher.find() ? 1 : 0, 0);
        }
        // A method of the face's class is indented by 4, one of a class inside by 8.
        Matcher method = Pattern.compile("(?ms)^( {4}| {8})[a-z][^\\n=]*\\) [^\\n]*\\{\\n.*?^\\1\\}").matcher(code);
        int methods = 0;
        while (method.find()) {
            methods++;
            CHECKS.due("at most sixty lines: " + method.group(), method.group().lines().count() > 60 ? 1 : 0, 0);
        }
        CHECKS.due("the methods are found", methods > 50 ? 1 : 0, 1);
    }
}
