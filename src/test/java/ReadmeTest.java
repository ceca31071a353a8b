import java.io.IOException;
import java.lang.reflect.Method;
import java.nio.file.Files;
import java.nio.file.Path;
import java.util.ArrayList;
import java.util.List;
import java.util.Set;
import java.util.TreeSet;
import java.util.regex.Matcher;
import java.util.regex.Pattern;
import java.util.stream.Collectors;
import java.util.stream.Stream;

/** README.md holds for the class as it stands: its face, its calls with their answers, its list of the tests. */
public final class ReadmeTest {
    private static final Due due = new Due("ReadmeTest");
    private static final Path TESTS = Path.of("src/test/java");
    private static final String FIRST_LINE = "public final class CodeChecker {";
    private static final String NEW_OBJECT = "CodeChecker checker = new CodeChecker();";
    private static final Pattern MEMBER = Pattern.compile("public (\\w+ \\w+)\\((.*)\\);");
    private static final Pattern CALL = Pattern.compile("checker\\.(\\w+)\\((.*)\\); +// (-?\\w+)(:.*)?");
    private static final Pattern ROW = Pattern.compile("\\| `(\\w+)` \\| .* \\|");
    private static final Pattern FAULT_ROW = Pattern.compile("\\| (\\d+) \\| .* \\|");

    private static CodeChecker checker;

    public static void main(String[] args) throws IOException, ReflectiveOperationException {
        List<String> lines = Files.readAllLines(Path.of("README.md"));
        List<List<String>> blocks = javaBlocks(lines);
        same("the face", faceTold(blocks), face());
        same("the calls of the examples", callsMade(blocks), names(face()));
        Set<String> rows = found(lines, ROW);
        same("the table of calls", onlyCalls(rows), names(face()));
        same("the table of tests", onlyTests(rows), tests());
        same("the table of faults", found(lines, FAULT_ROW), faults());
        due.is(".ci/run can be run", Files.isExecutable(Path.of(".ci/run")), true);
        due.is("README.md names .ci/run", lines.contains("    .ci/run"), true);
        due.finish();
    }

    private static void same(String what, Set<String> told, Set<String> want) {
        if (told.equals(want)) {
            due.is(what, true, true);
        } else {
            due.fail(what + " in README.md is " + told + ", due is " + want);
        }
    }

    private static List<List<String>> javaBlocks(List<String> lines) {
        List<List<String>> blocks = new ArrayList<>();
        boolean inside = false;
        for (String line : lines) {
            if (line.equals("```java")) {
                inside = true;
                blocks.add(new ArrayList<>());
            } else if (line.startsWith("```")) {
                inside = false;
            } else if (inside) {
                blocks.get(blocks.size() - 1).add(line);
            }
        }
        return blocks;
    }

    private static Set<String> faceTold(List<List<String>> blocks) {
        Set<String> told = new TreeSet<>();
        for (List<String> block : blocks) {
            for (String line : block.get(0).equals(FIRST_LINE) ? block : List.<String>of()) {
                Matcher member = MEMBER.matcher(line.trim());
                if (member.matches()) {
                    told.add(member.group(1) + "(" + withoutNames(member.group(2)) + ")");
                }
            }
        }
        return told;
    }

    /** Of "boolean result, int t" the types alone, since the compiled class does not keep the names. */
    private static String withoutNames(String parameters) {
        return parameters.replaceAll("(\\w+) \\w+", "$1").replace(", ", ",");
    }

    private static Set<String> face() {
        Set<String> face = new TreeSet<>();
        for (Method method : CodeChecker.class.getMethods()) {
            if (method.getDeclaringClass() == CodeChecker.class) {
                String parameters = Stream.of(method.getParameterTypes()).map(Class::getName)
                        .collect(Collectors.joining(",", "(", ")"));
                face.add(method.getReturnType().getName() + " " + method.getName() + parameters);
            }
        }
        return face;
    }

    private static Set<String> names(Set<String> face) {
        return face.stream().map(told -> told.replaceAll("^\\w+ |\\(.*", ""))
                .collect(Collectors.toCollection(TreeSet::new));
    }

    /** Makes every call of the examples, one object through all of them, as a reader would. */
    private static Set<String> callsMade(List<List<String>> blocks) throws ReflectiveOperationException {
        Set<String> made = new TreeSet<>();
        for (List<String> block : blocks) {
            for (String line : block.get(0).equals(FIRST_LINE) ? List.<String>of() : block) {
                Matcher call = CALL.matcher(line);
                if (line.equals(NEW_OBJECT)) {
                    checker = new CodeChecker();
                } else if (checker == null || !call.matches()) {
                    due.fail("no call with its answer: " + line);
                } else {
                    same("'" + line + "'", Set.of(call.group(3)), Set.of(answer(call.group(1), call.group(2))));
                    made.add(call.group(1));
                }
            }
        }
        return made;
    }

    private static String answer(String name, String arguments) throws ReflectiveOperationException {
        String[] words = arguments.isEmpty() ? new String[0] : arguments.split(", ");
        for (Method method : CodeChecker.class.getMethods()) {
            if (method.getName().equals(name) && method.getParameterCount() == words.length) {
                Object[] values = new Object[words.length];
                for (int i = 0; i < words.length; i++) {
                    boolean number = method.getParameterTypes()[i] == int.class;
                    values[i] = number ? (Object) Integer.valueOf(words[i]) : (Object) Boolean.valueOf(words[i]);
                }
                return method.invoke(checker, values).toString();
            }
        }
        return "no such call";
    }

    private static Set<String> found(List<String> lines, Pattern pattern) {
        return lines.stream().map(pattern::matcher).filter(Matcher::matches).map(row -> row.group(1))
                .collect(Collectors.toCollection(TreeSet::new));
    }

    private static Set<String> onlyTests(Set<String> rows) {
        return rows.stream().filter(row -> row.endsWith("Test")).collect(Collectors.toCollection(TreeSet::new));
    }

    private static Set<String> onlyCalls(Set<String> rows) {
        return rows.stream().filter(row -> !row.endsWith("Test")).collect(Collectors.toCollection(TreeSet::new));
    }

    private static Set<String> tests() throws IOException {
        Set<String> tests = new TreeSet<>();
        try (Stream<Path> files = Files.list(TESTS)) {
            for (Path file : files.collect(Collectors.toList())) {
                if (Files.readString(file).contains("static void main(")) {
                    tests.add(file.getFileName().toString().replace(".java", ""));
                }
            }
        }
        return tests;
    }

    private static Set<String> faults() {
        Set<String> faults = new TreeSet<>();
        for (int fault = 1; fault <= 15; fault++) {
            faults.add(String.valueOf(fault));
        }
        return faults;
    }
}
