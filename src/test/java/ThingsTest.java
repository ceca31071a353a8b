/** Promises 1 to 5: a new object, type, part, add, declare. */
public final class ThingsTest {
    private static final Due due = new Due("ThingsTest");

    public static void main(String[] args) {
        newObject();
        types();
        parts();
        partsAndCode();
        latestTypeAlone();
        kinds();
        fortyOfAKind();
        declared();
        due.finish();
    }

    private static void newObject() {
        CodeChecker x = new CodeChecker();
        due.is("state()", x.state(), 0);
        for (int what = -1; what <= 6; what++) {
            due.is("look(" + what + ")", x.look(what), -1);
        }
        due.is("operand(0)", x.operand(0), -1);
        due.is("part(false, 127)", x.part(false, 127), -1);
        due.is("part(true, 127)", x.part(true, 127), -1);
        due.is("add(0, 0, 0)", x.add(0, 0, 0), -1);
        due.is("declare(0)", x.declare(0), false);
        due.is("begin(0)", x.begin(0), false);
        due.is("local(127, 1)", x.local(127, 1), false);
        due.is("label(0)", x.label(0), -1);
        due.is("step(1, 0, 0)", x.step(1, 0, 0), -1);
        due.is("step(999, 0, 0)", x.step(999, 0, 0), -1);
        due.is("state()", x.state(), 0);
        due.is("add(2, 0, 0)", x.add(2, 0, 0), 0);
        due.is("type()", x.type(), 0);
    }

    private static void types() {
        CodeChecker x = new CodeChecker();
        for (int i = 0; i < 40; i++) {
            due.is("type()", x.type(), i);
        }
        due.is("41st type()", x.type(), -1);
        due.is("42nd type()", x.type(), -1);
        due.is("part(true, 127)", x.part(true, 127), 1);
        due.is("begin(39)", x.begin(39), true);
        due.is("step(65)", x.step(65, 0, 0), 0);
        due.is("step(11)", x.step(11, 0, 0), 0);
        due.is("begin(40)", x.begin(40), false);

        CodeChecker y = new CodeChecker();
        y.type();
        y.begin(0);
        due.is("type() while there is code", y.type(), 1);
        due.is("state()", y.state(), 1);
        due.is("step(2, 1)", y.step(2, 1, 0), 0);
    }

    private static void parts() {
        CodeChecker x = new CodeChecker();
        x.type();
        for (int t : new int[] {0, 1, -1, 128, 123, 113, 110, 64, -64, 127 - 128, Integer.MIN_VALUE, Integer.MAX_VALUE}) {
            due.is("part(false, " + t + ")", x.part(false, t), -1);
            due.is("part(true, " + t + ")", x.part(true, t), -1);
        }
        int count = 0;
        for (int t : Bench.VALUE_TYPES) {
            count++;
            due.is("part(false, " + t + ")", x.part(false, t), count);
        }
        due.is("part(true, 111)", x.part(true, 111), 1);
        for (; count < 12; count++) {
            due.is("part(false, 127)", x.part(false, 127), count + 1);
        }
        due.is("13th part(false, 127)", x.part(false, 127), -1);
        for (int i = 1; i < 12; i++) {
            due.is("part(true, 124)", x.part(true, 124), i + 1);
        }
        due.is("13th part(true, 124)", x.part(true, 124), -1);
        x.begin(0);
        due.is("look(5)", x.look(5), 12);
        int[] order = {127, 126, 125, 124, 112, 111, 127, 127, 127, 127, 127, 127};
        for (int i = 0; i < 12; i++) {
            x.step(32, i, 0);
            due.is("type of parameter " + i, x.operand(0), order[i]);
        }
    }

    private static void partsAndCode() {
        CodeChecker x = new CodeChecker();
        x.type();
        x.begin(0);
        due.is("part in a body", x.part(true, 127), -1);
        x.step(99, 0, 0);
        due.is("part behind a fault", x.part(true, 127), 1);
        x.constant(127, 0);
        due.is("part in a constant", x.part(false, 127), -1);
        x.step(65, 0, 0);
        due.is("step(11)", x.step(11, 0, 0), 0);
        due.is("part behind the end", x.part(false, 127), 1);
    }

    private static void latestTypeAlone() {
        CodeChecker x = new CodeChecker();
        x.type();
        x.part(true, 126);
        x.type();
        due.is("part of the second type", x.part(true, 124), 1);
        x.begin(0);
        x.step(66, 0, 0);
        due.is("the first type's result", x.step(11, 0, 0), 0);
        x.begin(1);
        x.step(68, 0, 0);
        due.is("the second type's result", x.step(11, 0, 0), 0);
    }

    private static void kinds() {
        CodeChecker x = new CodeChecker();
        x.type();
        int[] wrongKinds = {-1, 6, 7, Integer.MIN_VALUE, Integer.MAX_VALUE};
        for (int kind : wrongKinds) {
            due.is("add(" + kind + ", 127, 0)", x.add(kind, 127, 0), -1);
            due.is("add(" + kind + ", 112, 0)", x.add(kind, 112, 0), -1);
        }
        due.is("add(0, 1, 0)", x.add(0, 1, 0), -1);
        due.is("add(0, -1, 0)", x.add(0, -1, 0), -1);
        due.is("add(0, 0, 77)", x.add(0, 0, 77), 0);
        for (int kind : new int[] {1, 4}) {
            for (int a : new int[] {0, 127, 126, 125, 124, 113, 110, -16, -17}) {
                due.is("add(" + kind + ", " + a + ", 0)", x.add(kind, a, 0), -1);
            }
            due.is("add(" + kind + ", 112, -5)", x.add(kind, 112, -5), 0);
            due.is("add(" + kind + ", 111, 9)", x.add(kind, 111, 9), 1);
        }
        due.is("add(2, -9, -9)", x.add(2, -9, -9), 0);
        due.is("add(5, -9, -9)", x.add(5, -9, -9), 0);
        int globals = 0;
        for (int t : Bench.VALUE_TYPES) {
            due.is("add(3, " + t + ", 2)", x.add(3, t, 2), -1);
            due.is("add(3, " + t + ", -1)", x.add(3, t, -1), -1);
            due.is("add(3, " + t + ", 0)", x.add(3, t, 0), globals);
            due.is("add(3, " + t + ", 1)", x.add(3, t, 1), globals + 1);
            globals += 2;
        }
        due.is("add(3, 0, 0)", x.add(3, 0, 0), -1);
        due.is("add(3, 123, 1)", x.add(3, 123, 1), -1);
        x.begin(0);
        due.is("add in code", x.add(3, 127, 0), globals);
        due.is("it is there", x.step(35, globals, 0), 0);
        due.is("state()", x.state(), 1);
    }

    private static void fortyOfAKind() {
        CodeChecker x = new CodeChecker();
        x.type();
        int[] a = {0, 111, 0, 127, 112, 0};
        for (int kind = 0; kind < 6; kind++) {
            for (int i = 0; i < 40; i++) {
                due.is("add(" + kind + ")", x.add(kind, a[kind], 0), i);
            }
            due.is("41st add(" + kind + ")", x.add(kind, a[kind], 0), -1);
        }
        due.is("declare(39)", x.declare(39), true);
        due.is("declare(40)", x.declare(40), false);
        x.begin(0);
        due.is("function 39", x.step(16, 39, 0), 0);
        due.is("global 39", x.step(35, 39, 0), 0);
        due.is("table 39", x.step(272, 39, 0), 0);
        due.is("element 39", x.step(269, 39, 0), 0);
        due.is("data 39", x.step(265, 39, 0), 0);
        due.is("data 40", x.step(265, 40, 0), 12);
    }

    private static void declared() {
        CodeChecker x = new CodeChecker();
        x.type();
        x.add(0, 0, 0);
        x.add(0, 0, 0);
        due.is("declare(-1)", x.declare(-1), false);
        due.is("declare(2)", x.declare(2), false);
        due.is("declare(1)", x.declare(1), true);
        due.is("declare(1) again", x.declare(1), true);
        x.begin(0);
        due.is("210 of a DECLARED one", x.step(210, 1, 0), 0);
        due.is("210 of another one", x.step(210, 0, 0), 11);
        x.begin(0);
        due.is("declare(0) in code", x.declare(0), true);
        due.is("210 of it", x.step(210, 0, 0), 0);
        due.is("state()", x.state(), 1);
    }
}
