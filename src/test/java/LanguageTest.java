import java.io.IOException;
import java.lang.reflect.Constructor;
import java.lang.reflect.Field;
import java.lang.reflect.Method;
import java.lang.reflect.Modifier;
import java.nio.file.Files;
import java.nio.file.Path;
import java.util.ArrayList;
import java.util.List;
import java.util.Set;
import java.util.TreeSet;
import java.util.regex.Matcher;
import java.util.regex.Pattern;

/** The face of the class, and those rules of LANGUAGE.md that can be seen in its text. */
public final class LanguageTest {
    private static final Path SOURCE = Path.of("src/main/java/AdapterBench.java");
    private static final String[] FACE = {
        "int rule(int, int, int, int)", "int drop(int)", "int turning(int, int, int)", "int turn(int, int, long)",
        "int ask(int, int, int)", "int offer(int, int, int)", "int work(int, int, int, int, int)",
        "int times(int, int, int, int)", "int strip(boolean, int)", "boolean alias(int, int, boolean)",
        "int constant(int, boolean, long)", "int fit(int, int, int, int)", "int fits(int, int)", "int gap(int, int)",
        "int way(int, int, int)", "int object(int)", "int put(int, int, long)", "long field(int, int)",
        "int hand(int, long)", "int call(int, int, int)", "int through(int, int, int, int)", "long value()",
        "int failed(int)", "int count(int)"};
    private static final String[] CONSTANTS = {"NONE", "EMPTY", "OUTSIDE", "FULL", "GAP", "FAILS"};
    private static final String[] BANNED = {"\\bthrow\\b", "\\bthrows\\b", "\\btry\\b", "\\bcatch\\b",
        "\\bsynchronized\\b", "\\bassert\\b", "->", "::", "\\bprotected\\b", "\\w*Exact\\b", "\\bSystem\\.(?!arraycopy)",
        "\\bObject\\b", "\\bhashCode\\b", "\\btoString\\b", "\\bRandom\\b", "\\bThread\\b",
        "\\bstatic\\s*\\{", "\\bnew\\s+\\w+\\s*\\([^()]*\\)\\s*\\{", "\\bpackage\\b"};

    private LanguageTest() {
    }

    public static void main(String[] args) throws IOException {
        face();
        classes();
        text();
        Check.end("LanguageTest");
    }

    private static void face() {
        Set<String> want = new TreeSet<>(List.of(FACE));
        Set<String> got = new TreeSet<>();
        for (Method method : AdapterBench.class.getDeclaredMethods()) {
            if (!Modifier.isPrivate(method.getModifiers())) {
                Check.due(method + " is public", Modifier.isPublic(method.getModifiers()), true);
                got.add(signature(method));
            }
        }
        Check.due("methods " + got, got.equals(want), true);
        Constructor<?>[] constructors = AdapterBench.class.getDeclaredConstructors();
        Check.due("constructors", constructors.length, 1);
        Check.due("its parameters", constructors[0].getParameterCount(), 0);
        Check.due("it is public", Modifier.isPublic(constructors[0].getModifiers()), true);
        Set<String> constants = new TreeSet<>();
        for (Field field : AdapterBench.class.getDeclaredFields()) {
            if (!Modifier.isPrivate(field.getModifiers())) {
                constants.add(field.getName());
            }
        }
        Check.due("constants " + constants, constants.equals(new TreeSet<>(List.of(CONSTANTS))), true);
        Check.due("final", Modifier.isFinal(AdapterBench.class.getModifiers()), true);
    }

    private static String signature(Method method) {
        List<String> parameters = new ArrayList<>();
        for (Class<?> type : method.getParameterTypes()) {
            parameters.add(type.getName());
        }
        return method.getReturnType().getName() + " " + method.getName() + "(" + String.join(", ", parameters) + ")";
    }

    private static void classes() {
        Set<String> publicNames = new TreeSet<>();
        for (String signature : FACE) {
            publicNames.add(signature.substring(signature.indexOf(' ') + 1, signature.indexOf('(')));
        }
        List<Class<?>> all = new ArrayList<>(List.of(AdapterBench.class.getDeclaredClasses()));
        Check.due("at most twelve classes", all.size() < 12, true);
        for (Class<?> inside : all) {
            Check.due(inside + " is static", Modifier.isStatic(inside.getModifiers()), true);
            Check.due(inside + " is not public", Modifier.isPublic(inside.getModifiers()), false);
        }
        all.add(AdapterBench.class);
        for (Class<?> one : all) {
            int fields = 0;
            for (Field field : one.getDeclaredFields()) {
                boolean isStatic = Modifier.isStatic(field.getModifiers());
                fields += isStatic ? 0 : 1;
                Check.due(field + " is final if it is static", !isStatic || Modifier.isFinal(field.getModifiers()), true);
            }
            Check.due("at most twenty fields in " + one, fields <= 20, true);
            for (Method method : one.getDeclaredMethods()) {
                Check.due("at most seven parameters of " + method, method.getParameterCount() <= 7, true);
                boolean isOfFace = one == AdapterBench.class && Modifier.isPublic(method.getModifiers());
                Check.due("a name of its own: " + method, isOfFace || !publicNames.contains(method.getName()), true);
            }
        }
    }

    private static void text() throws IOException {
        String text = Files.readString(SOURCE);
        String code = text.replaceAll("(?s)/\\*.*?\\*/", "").replaceAll("//[^\n]*", "");
        for (String banned : BANNED) {
            Matcher matcher = Pattern.compile(banned).matcher(code);
            Check.due("no " + banned + (matcher.find() ? " as in " + matcher.group() : ""), matcher.reset().find(), false);
        }
        Matcher imports = Pattern.compile("import ([\\w.*]+);").matcher(code);
        while (imports.find()) {
            Check.due("import " + imports.group(1), imports.group(1).equals("java.util.Arrays"), true);
        }
        Check.due("signs 1 to 127", text.chars().allMatch(c -> c > 0 && c < 128), true);
        int opened = 0;
        String[] lines = text.split("\n");
        for (int i = 0; i < lines.length; i++) {
            // A method starts at an indent of 4 or 8 and ends at a lone brace at the same one.
            if (lines[i].matches("( {4}| {8})\\w.*\\) \\{")) {
                opened = i;
            } else if (lines[i].matches("( {4}| {8})\\}")) {
                Check.due("at most sixty lines at line " + (opened + 1), i - opened < 60, true);
            }
        }
    }
}
