import java.io.IOException;
import java.lang.reflect.Constructor;
import java.lang.reflect.Field;
import java.lang.reflect.Method;
import java.lang.reflect.Modifier;
import java.nio.file.Files;
import java.nio.file.Path;
import java.util.Arrays;
import java.util.List;
import java.util.Set;
import java.util.TreeSet;

/** The public face, what of LANGUAGE.md can be seen in the class and its text, and wild arguments. */
public final class FaceTest {
    private static final Due due = new Due("FaceTest");
    private static final Set<String> FACE = new TreeSet<>(List.of(
            "int type()", "int part(boolean,int)", "int add(int,int,int)", "boolean declare(int)",
            "boolean begin(int)", "boolean constant(int,int)", "boolean local(int,int)", "int label(int)",
            "int step(int,int,int)", "int state()", "long look(int)", "int operand(int)"));
    private static final List<String> FORBIDDEN = List.of(
            "import ", "package ", "try ", "catch", "finally", "throw", "synchronized", "assert ", "->", "::",
            "System.", "Math.", "Exact", "hashCode", "toString", "float ", "double ");
    private static final int[] WILD = {
        Integer.MIN_VALUE, Integer.MIN_VALUE + 1, -129, -128, -64, -17, -1, 0, 1, 2, 5, 11, 14, 39, 40, 64, 111, 112, 127,
        128, 199, 200, 273, 65535, Integer.MAX_VALUE - 1, Integer.MAX_VALUE
    };

    public static void main(String[] args) throws IOException {
        publicMembers();
        sourceText();
        wildArguments();
        due.finish();
    }

    private static void publicMembers() {
        int modifiers = CodeChecker.class.getModifiers();
        due.is("public final class", Modifier.isPublic(modifiers) && Modifier.isFinal(modifiers), true);
        Set<String> seen = new TreeSet<>();
        Set<String> hidden = new TreeSet<>();
        for (Method method : CodeChecker.class.getDeclaredMethods()) {
            if (Modifier.isPrivate(method.getModifiers())) {
                hidden.add(method.getName());
            } else {
                seen.add(described(method));
            }
        }
        if (!seen.equals(FACE)) {
            due.fail("the face is " + seen);
        }
        for (Method method : CodeChecker.class.getMethods()) {
            due.is("private method named " + method.getName(), hidden.contains(method.getName()), false);
        }
        for (Field field : CodeChecker.class.getDeclaredFields()) {
            due.is("private field " + field.getName(), Modifier.isPrivate(field.getModifiers()), true);
        }
        Constructor<?>[] constructors = CodeChecker.class.getDeclaredConstructors();
        due.is("constructors", constructors.length, 1);
        due.is("public constructor", Modifier.isPublic(constructors[0].getModifiers()), true);
        due.is("its parameters", constructors[0].getParameterCount(), 0);
    }

    private static String described(Method method) {
        String parameters = Arrays.toString(Arrays.stream(method.getParameterTypes()).map(Class::getName).toArray());
        return method.getReturnType().getName() + " " + method.getName()
                + parameters.replace("[", "(").replace("]", ")").replace(", ", ",");
    }

    private static void sourceText() throws IOException {
        List<String> lines = Files.readAllLines(Path.of("src/main/java/CodeChecker.java"));
        for (int i = 0; i < lines.size(); i++) {
            String text = lines.get(i).trim();
            boolean comment = text.startsWith("*") || text.startsWith("/") || text.startsWith("//");
            for (String word : FORBIDDEN) {
                due.is("line " + (i + 1) + " has " + word, !comment && text.contains(word), false);
            }
        }
    }

    private static void wildArguments() {
        for (int code = 0; code < 5; code++) {
            for (int a : WILD) {
                for (int b : WILD) {
                    CodeChecker x = new Bench(due).checker;
                    begin(x, code);
                    try {
                        allCalls(x, a, b);
                    } catch (RuntimeException e) {
                        due.fail("code " + code + ", arguments " + a + " and " + b + ": " + e);
                    }
                }
            }
        }
    }

    private static void begin(CodeChecker x, int code) {
        if (code == 1) {
            x.begin(8);
        } else if (code == 2) {
            x.constant(127, 12);
        } else if (code >= 3) {
            x.begin(7);
            x.step(2, -1, 0);
            x.step(code == 3 ? 0 : 65, 0, 0);
        }
    }

    private static void allCalls(CodeChecker x, int a, int b) {
        x.look(a);
        x.operand(a);
        x.local(a, b);
        x.local(127, b);
        x.label(a);
        x.step(14, b, a);
        x.type();
        x.part(true, a);
        x.add(a, b, b);
        x.declare(a);
        for (int n : WILD) {
            x.begin(8);
            x.label(b);
            x.step(n, a, b);
            x.look(b);
            x.operand(b);
        }
        x.begin(a);
        x.constant(a, b);
        x.state();
    }
}
