import java.io.IOException;
import java.lang.reflect.Constructor;
import java.lang.reflect.Field;
import java.lang.reflect.Method;
import java.lang.reflect.Modifier;
import java.nio.charset.StandardCharsets;
import java.nio.file.Files;
import java.nio.file.Path;
import java.util.Arrays;
import java.util.TreeSet;
import java.util.regex.Matcher;
import java.util.regex.Pattern;

/** The public face, and those rules of LANGUAGE.md that can be seen without running the class. */
public final class LanguageTests {
    private static final String[] METHODS = {
        "node()", "source(int,int)", "put(int,int,int)", "take(int,int)", "arc(int,int)", "begin()", "end()", "undo()",
        "distance(int,int)", "hops(int,int)", "parent(int,int)", "way(int,int,int)", "affected(int)", "tight(int)",
        "ring(int)", "count(int)"};
    private static final String[] CONSTANTS = {
        "NONE=-1000000", "BAD=-2000000", "FULL=-3000000", "TURN=-4000000", "REFUSED=-5000000"};
    private static final Path SOURCE = Path.of("src/main/java/KeptPaths.java");
    private static final String FORBIDDEN =
        "\\b(throw|throws|try|catch|synchronized|assert|package|Exception|Random|System\\.(?!arraycopy)|\\w+Exact)\\b|->|::";

    private static int wrong = 0;

    private static void due(String what, Object got, Object want) {
        if (!got.equals(want)) {
            wrong++;
            System.out.println(what + ": " + got + ", due is " + want);
        }
    }

    public static void main(String[] args) throws Exception {
        face();
        innerClasses();
        sourceText();
        System.out.println(wrong == 0 ? "the face and the language are as due" : wrong + " things are not as due");
        if (wrong != 0) {
            System.exit(1);
        }
    }

    private static void face() throws IllegalAccessException {
        due("public and final", Modifier.toString(KeptPaths.class.getModifiers()), "public final");
        TreeSet<String> methods = new TreeSet<>();
        TreeSet<String> publicNames = new TreeSet<>();
        for (Method method : KeptPaths.class.getDeclaredMethods()) {
            if (!Modifier.isPrivate(method.getModifiers())) {
                due("modifiers of " + method.getName(), Modifier.toString(method.getModifiers()), "public");
                due("type of " + method.getName(), method.getReturnType(), int.class);
                methods.add(signature(method));
                publicNames.add(method.getName());
            }
        }
        due("methods", methods, new TreeSet<>(Arrays.asList(METHODS)));
        TreeSet<String> constants = new TreeSet<>();
        for (Field field : KeptPaths.class.getDeclaredFields()) {
            if (!Modifier.isPrivate(field.getModifiers())) {
                due("modifiers of " + field.getName(), Modifier.toString(field.getModifiers()), "public static final");
                constants.add(field.getName() + "=" + field.getInt(null));
            }
        }
        due("constants", constants, new TreeSet<>(Arrays.asList(CONSTANTS)));
        Constructor<?>[] constructors = KeptPaths.class.getDeclaredConstructors();
        due("constructors", constructors.length, 1);
        due("constructor", constructors[0].toString(), "public KeptPaths()");
        noPrivateNamesake(KeptPaths.class, publicNames);
        for (Class<?> inner : KeptPaths.class.getDeclaredClasses()) {
            noPrivateNamesake(inner, publicNames);
        }
    }

    private static String signature(Method method) {
        String types = Arrays.toString(method.getParameterTypes());
        return method.getName() + "(" + types.substring(1, types.length() - 1).replace(", ", ",") + ")";
    }

    private static void noPrivateNamesake(Class<?> where, TreeSet<String> publicNames) {
        for (Method method : where.getDeclaredMethods()) {
            boolean isFace = where == KeptPaths.class && Modifier.isPublic(method.getModifiers());
            due("namesake " + method, !isFace && publicNames.contains(method.getName()), false);
            due("parameters of " + method + " are at most seven", method.getParameterCount() <= 7, true);
        }
    }

    private static void innerClasses() {
        due("classes are at most twelve", KeptPaths.class.getDeclaredClasses().length <= 11, true);
        for (Class<?> inner : KeptPaths.class.getDeclaredClasses()) {
            due("static " + inner, Modifier.isStatic(inner.getModifiers()), true);
            due("not public " + inner, Modifier.isPublic(inner.getModifiers()), false);
            due("not protected " + inner, Modifier.isProtected(inner.getModifiers()), false);
            for (Field field : inner.getDeclaredFields()) {
                int modifiers = field.getModifiers();
                due("static state " + field, Modifier.isStatic(modifiers) && !Modifier.isFinal(modifiers), false);
            }
        }
    }

    private static void sourceText() throws IOException {
        String text = new String(Files.readAllBytes(SOURCE), StandardCharsets.UTF_8);
        String code = text.replaceAll("(?s)/\\*.*?\\*/", "").replaceAll("//[^\n]*", "");
        Matcher found = Pattern.compile(FORBIDDEN).matcher(code);
        while (found.find()) {
            due("outside the language", found.group(), "");
        }
        Matcher imports = Pattern.compile("import ([^;]*);").matcher(code);
        while (imports.find()) {
            due("import", imports.group(1), "java.util.Arrays");
        }
    }
}
