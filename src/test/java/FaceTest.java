import java.io.IOException;
import java.lang.reflect.Constructor;
import java.lang.reflect.Field;
import java.lang.reflect.Method;
import java.lang.reflect.Modifier;
import java.nio.file.Files;
import java.nio.file.Path;
import java.util.ArrayList;
import java.util.Arrays;
import java.util.HashSet;
import java.util.List;
import java.util.Set;
import java.util.TreeSet;
import java.util.regex.Matcher;
import java.util.regex.Pattern;
import java.util.stream.Collectors;

/** The public face of the document, and the rules of LANGUAGE.md that a look at the source can tell. */
public final class FaceTest {
    private static final String[] FACE = {"int feed(int,int,int,int,int)", "boolean end(int)", "int text()", "int fault()",
        "int now(int)", "int item(int,int) throws NoSuchElementException", "int loss(int,int) throws NoSuchElementException",
        "int rate(int,int)", "int covered(int,int,int)", "int balance(int,int)", "int closing(int,int,int)",
        "int would(int,int,int)", "int needs(int,int)", "int enact(int,int,int)", "int expect(int,int,int)",
        "int arises(int,boolean,int,int,int)", "int settle(int)", "int loses(int,int,int)", "int yearEnd()", "int undo()"};
    private static final Path DOCUMENT = Path.of("../shared/DOC.md");
    private static final String[] BARRED = {"->", "::", "Exact\\(", "\\bsynchronized\\b", "\\bassert\\b", "\\bfinally\\b",
        "\\btry\\b", "\\bcatch\\b", "\\bprotected\\b", "\\bSystem\\.(?!arraycopy)", "\\bThread\\b", "\\bRandom\\b",
        "\\bimport (?!java\\.util\\.NoSuchElementException;)", "\\bpackage\\b", "\\bstatic \\{"};
    private static final Checks CHECKS = new Checks();

    public static void main(String[] args) throws IOException {
        if (Files.isReadable(DOCUMENT)) {
            faceOfTheDocument(Files.readString(DOCUMENT));
        }
        methods();
        constructorsAndFields();
        classesInside();
        source(Files.readString(Path.of("src/main/java/DeferredDesk.java")));
        CHECKS.finish();
    }

    /** The list above is the document's, in its order. */
    private static void faceOfTheDocument(String document) {
        int start = document.indexOf("## The public face");
        String face = document.substring(start, document.indexOf("## Terms", start));
        List<String> told = new ArrayList<>();
        Matcher line = Pattern.compile("public (int|boolean) (\\w+)\\(([^)]*)\\)([^;]*);").matcher(face);
        while (line.find()) {
            String parameters = line.group(3).replaceAll(" \\w+(, |$)", "$1").replace(", ", ",");
            told.add(line.group(1) + " " + line.group(2) + "(" + parameters + ")" + line.group(4));
        }
        CHECKS.due("the document's methods are " + told, told.equals(Arrays.asList(FACE)) ? 1 : 0, 1);
        CHECKS.due("its constant", face.contains("public static final int NONE = -1;") ? 1 : 0, 1);
        CHECKS.due("its constructor", face.contains("public DeferredDesk();") ? 1 : 0, 1);
    }

    private static String thrown(Method method) {
        Class<?>[] thrown = method.getExceptionTypes();
        return thrown.length == 0 ? "" : " throws " + Arrays.stream(thrown).map(Class::getSimpleName).collect(Collectors.joining(", "));
    }

    private static void methods() {
        Set<String> found = new TreeSet<>();
        Set<String> open = new HashSet<>();
        for (Method method : DeferredDesk.class.getDeclaredMethods()) {
            if (Modifier.isPublic(method.getModifiers())) {
                String parameters = String.join(",", Arrays.stream(method.getParameterTypes()).map(Class::getName).toList());
                found.add(method.getReturnType().getName() + " " + method.getName() + "(" + parameters + ")" + thrown(method));
                CHECKS.due(method + " is of an object", Modifier.isStatic(method.getModifiers()) ? 1 : 0, 0);
                open.add(method.getName());
            }
        }
        CHECKS.due("the methods are those of the document: " + found, found.equals(new TreeSet<>(Arrays.asList(FACE))) ? 1 : 0, 1);
        for (Method method : DeferredDesk.class.getDeclaredMethods()) {
            boolean isOpen = Modifier.isPublic(method.getModifiers());
            boolean hidden = Modifier.isPrivate(method.getModifiers()) && !open.contains(method.getName());
            CHECKS.due(method + " is of the face, or private and of another name", isOpen || hidden || method.isSynthetic() ? 1 : 0, 1);
        }
    }

    private static void constructorsAndFields() {
        int publicAndFinal = Modifier.PUBLIC | Modifier.FINAL;
        CHECKS.due("the class is public and final", DeferredDesk.class.getModifiers(), publicAndFinal);
        Constructor<?>[] constructors = DeferredDesk.class.getDeclaredConstructors();
        CHECKS.due("constructors", constructors.length, 1);
        CHECKS.due("a public one", constructors[0].getModifiers(), Modifier.PUBLIC);
        CHECKS.due("of no parameter", constructors[0].getParameterCount(), 0);
        int open = 0;
        for (Field field : DeferredDesk.class.getDeclaredFields()) {
            boolean isNone = field.getName().equals("NONE") && field.getType() == int.class
                && field.getModifiers() == (publicAndFinal | Modifier.STATIC);
            open += isNone ? 1 : 0;
            CHECKS.due(field + " is private", isNone || Modifier.isPrivate(field.getModifiers()) ? 1 : 0, 1);
        }
        CHECKS.due("NONE is public", open, 1);
        CHECKS.due("NONE", DeferredDesk.NONE, -1);
    }

    private static void classesInside() {
        Class<?>[] inside = DeferredDesk.class.getDeclaredClasses();
        staticsAndParameters(DeferredDesk.class);
        CHECKS.due("twelve classes at most", inside.length <= 11 ? 1 : 0, 1);
        for (Class<?> one : inside) {
            boolean shut = !Modifier.isPublic(one.getModifiers()) && !Modifier.isProtected(one.getModifiers());
            CHECKS.due(one + " is static and not open", shut && Modifier.isStatic(one.getModifiers()) ? 1 : 0, 1);
            long fields = Arrays.stream(one.getDeclaredFields()).filter(f -> !Modifier.isStatic(f.getModifiers())).count();
            CHECKS.due(one + " has twenty fields at most", fields <= 20 ? 1 : 0, 1);
            staticsAndParameters(one);
        }
    }

    private static void staticsAndParameters(Class<?> one) {
        for (Field field : one.getDeclaredFields()) {
            boolean changes = Modifier.isStatic(field.getModifiers()) && !Modifier.isFinal(field.getModifiers());
            CHECKS.due(field + " is final, if it is static", changes ? 1 : 0, 0);
        }
        for (Method method : one.getDeclaredMethods()) {
            CHECKS.due(method + " has seven parameters at most", method.getParameterCount() <= 7 ? 1 : 0, 1);
        }
    }

    private static void source(String source) {
        String code = source.replaceAll("(?s)/\\*.*?\\*/", "").replaceAll("//[^\n]*", "");
        for (String barred : BARRED) {
            Matcher matcher = Pattern.compile(barred).matcher(code);
            CHECKS.due("the code has no " + barred, matcher.find() ? 1 : 0, 0);
        }
        // A method of the face's class is indented by 4, one of a class inside by 8.
        Matcher method = Pattern.compile("(?ms)^( {4}| {8})[a-z][^\\n=]*\\) [^\\n]*\\{\\n.*?^\\1\\}").matcher(code);
        int methods = 0;
        while (method.find()) {
            methods++;
            CHECKS.due("at most sixty lines: " + method.group(), method.group().lines().count() > 60 ? 1 : 0, 0);
        }
        CHECKS.due("the methods are found", methods > 50 ? 1 : 0, 1);
    }
}
