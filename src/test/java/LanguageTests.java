import java.io.IOException;
import java.lang.reflect.Constructor;
import java.lang.reflect.Field;
import java.lang.reflect.Method;
import java.lang.reflect.Modifier;
import java.nio.file.Files;
import java.nio.file.Path;
import java.util.ArrayList;
import java.util.List;
import java.util.Set;
import java.util.TreeSet;
import java.util.regex.Matcher;
import java.util.regex.Pattern;

/** The face of the class, and the rules of LANGUAGE.md that its text and its classes can tell. */
public final class LanguageTests {
    private static final Path SOURCE = Path.of("src/main/java/AlertEngine.java");
    private static final Set<String> FACE = new TreeSet<>(List.of(
        "int label(int,int,int)", "int sample(int,int)", "int drop(int)", "int feed(int,int,int,int,int,int)",
        "int add(int)", "int remove(int,int)", "int parameter(int,int)", "int pass(int)", "int alert(int,int,int)",
        "long alerts(int)", "int group(int,int)", "int key(int)", "int sent(int,int)", "int ahead(int)",
        "int next(int)", "int saved(int,int)", "int image()", "int undo()", "int count(int)"));
    private static final String[] FORBIDDEN = {
        "\\bimport\\b", "\\bpackage\\b", "\\bthrows?\\b", "\\btry\\b", "\\bcatch\\b", "\\bfinally\\b", "\\bsynchronized\\b",
        "\\bassert\\b", "\\bvolatile\\b", "\\bnative\\b", "->", "::", "\\bObject\\b", "\\bThread\\b", "\\bRuntime\\b",
        "\\bException\\b", "Error\\b", "Exact\\(", "\\bequals\\b", "\\bhashCode\\b", "\\btoString\\b", "\\bprotected\\b",
        "\\bgetClass\\b", "\\bvar\\b", "System\\.(?!arraycopy)", "\\bstatic \\{", "[^\\x01-\\x7E]",
    };
    private static final int MOST_CLASSES = 12, MOST_FIELDS = 20, MOST_ARGUMENTS = 7, MOST_LINES = 60;

    private LanguageTests() {
    }

    public static void main(String[] args) throws IOException {
        face();
        for (Class<?> inside : AlertEngine.class.getDeclaredClasses()) nested(inside);
        Check.same("enough classes", AlertEngine.class.getDeclaredClasses().length < MOST_CLASSES, true);
        text(Files.readString(SOURCE));
        Check.end("LanguageTests");
    }

    private static void face() {
        Class<?> engine = AlertEngine.class;
        Check.same("modifiers", engine.getModifiers(), Modifier.PUBLIC | Modifier.FINAL);
        Set<String> constants = new TreeSet<>();
        for (Field field : engine.getDeclaredFields()) {
            if (!Modifier.isPrivate(field.getModifiers())) constants.add(field.toString());
        }
        Set<String> due = new TreeSet<>();
        for (String name : List.of("NONE", "BAD", "STATE", "FULL")) due.add("public static final int AlertEngine." + name);
        Check.same("constants", constants, due);
        Set<String> methods = new TreeSet<>();
        for (Method method : engine.getDeclaredMethods()) {
            if (!Modifier.isPrivate(method.getModifiers())) methods.add(signature(method));
        }
        Check.same("methods", methods, FACE);
        Check.same("constructors", engine.getDeclaredConstructors().length, 1);
        Check.same("constructor", engine.getDeclaredConstructors()[0].toString(), "public AlertEngine()");
        members(engine);
    }

    private static String signature(Method method) {
        List<String> types = new ArrayList<>();
        for (Class<?> type : method.getParameterTypes()) types.add(type.getName());
        Check.same(method.getName() + " is public", method.getModifiers(), Modifier.PUBLIC);
        return method.getReturnType() + " " + method.getName() + "(" + String.join(",", types) + ")";
    }

    private static void nested(Class<?> inside) {
        String name = inside.getSimpleName();
        Check.same(name + " is static", Modifier.isStatic(inside.getModifiers()), true);
        Check.same(name + " is not public", inside.getModifiers() & (Modifier.PUBLIC | Modifier.PROTECTED), 0);
        Check.same(name + " holds no class", inside.getDeclaredClasses().length, 0);
        for (Method method : inside.getDeclaredMethods()) {
            for (String one : FACE) {
                Check.same(name + "." + method.getName() + " bears no public name", one.contains(" " + method.getName() + "("), false);
            }
        }
        members(inside);
    }

    private static void members(Class<?> one) {
        int fields = 0;
        for (Field field : one.getDeclaredFields()) {
            boolean constant = Modifier.isStatic(field.getModifiers());
            if (constant) Check.same(field + " is final", Modifier.isFinal(field.getModifiers()), true);
            else fields++;
        }
        Check.same(one + " has few fields", fields <= MOST_FIELDS, true);
        for (Method method : one.getDeclaredMethods()) Check.same(method + " is short of arguments", method.getParameterCount() <= MOST_ARGUMENTS, true);
        for (Constructor<?> made : one.getDeclaredConstructors()) Check.same(made + " too", made.getParameterCount() <= MOST_ARGUMENTS, true);
    }

    private static void text(String source) {
        String bare = source.replaceAll("(?s)/\\*.*?\\*/", "").replaceAll("//.*", "").replaceAll("'.'", "' '");
        for (String word : FORBIDDEN) {
            Matcher found = Pattern.compile(word).matcher(bare);
            if (found.find()) Check.fail("LANGUAGE.md forbids: " + found.group());
        }
        int opened = 0;
        String name = "";
        String[] lines = bare.split("\n", -1);
        for (int i = 0; i < lines.length; i++) {
            if (lines[i].matches(" {4,8}[\\w\\[\\] ]+\\(.*\\{")) {
                opened = i;
                name = lines[i].trim();
            }
            if (lines[i].matches(" {4,8}\\}") && i - opened >= MOST_LINES) Check.fail(name + " is too long");
            if (lines[i].matches(" {0,8}\\}")) opened = i;
        }
    }
}
