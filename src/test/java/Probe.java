import java.util.ArrayList;
import java.util.List;
import java.util.function.Consumer;

/**
 * A new object under one sentence of the document. Each call keeps its answer (true counts 1, false 0), and
 * is(..) says what was due; so a row of calls reads as a story, and each failure names its sentence.
 */
final class Probe {
    static final int W32 = 127;
    static final int W64 = 126;
    static final int F32 = 125;
    static final int F64 = 124;
    static final int FUNC = 112;
    static final int OUT = 111;
    static final int MIN = Integer.MIN_VALUE;
    static final int MAX = Integer.MAX_VALUE;
    static final int[] VALUE_TYPES = {W32, W64, F32, F64, FUNC, OUT};
    /** Those beside a value type, UNKNOWN, block types, and what has a value type's last bits. */
    static final int[] NO_VALUE_TYPES = {
        128, 123, 113, 110, 0, 1, -1, -2, -16, -17, -64, 64, 127 + 256, 112 + 65536, 127 - 256, MIN + 127, MIN, MAX
    };
    /** The last calls of which the document says anything. */
    static final int MOST_CALLS = 512;

    final List<Long> answers = new ArrayList<>();
    private final CodeChecker checker = new CodeChecker();
    private final Due due;
    private final String sentence;
    private String call = "";

    Probe(Due due, String sentence) {
        this.due = due;
        this.sentence = sentence;
    }

    private Probe told(String text, long answer) {
        call = text;
        answers.add(answer);
        if (answers.size() == MOST_CALLS + 1) {
            due.fail("'" + sentence + "': more than " + MOST_CALLS + " calls on one object");
        }
        return this;
    }

    private Probe told(String text, boolean answer) {
        return told(text, answer ? 1L : 0L);
    }

    long answer() {
        return answers.get(answers.size() - 1);
    }

    int callsLeft() {
        return MOST_CALLS - answers.size();
    }

    Probe is(long want) {
        due.is("'" + sentence + "': call " + answers.size() + ", " + call, answer(), want);
        return this;
    }

    Probe is(boolean want) {
        return is(want ? 1L : 0L);
    }

    Probe type() {
        return told("type()", checker.type());
    }

    Probe part(boolean result, int t) {
        return told("part(" + result + ", " + t + ")", checker.part(result, t));
    }

    Probe add(int kind, int a, int b) {
        return told("add(" + kind + ", " + a + ", " + b + ")", checker.add(kind, a, b));
    }

    Probe declare(int function) {
        return told("declare(" + function + ")", checker.declare(function));
    }

    Probe begin(int type) {
        return told("begin(" + type + ")", checker.begin(type));
    }

    Probe constant(int type, int globals) {
        return told("constant(" + type + ", " + globals + ")", checker.constant(type, globals));
    }

    Probe local(int t, int n) {
        return told("local(" + t + ", " + n + ")", checker.local(t, n));
    }

    Probe label(int x) {
        return told("label(" + x + ")", checker.label(x));
    }

    Probe step(int instruction, int x, int y) {
        return told("step(" + instruction + ", " + x + ", " + y + ")", checker.step(instruction, x, y));
    }

    Probe step(int instruction, int x) {
        return step(instruction, x, 0);
    }

    Probe step(int instruction) {
        return step(instruction, 0, 0);
    }

    Probe state() {
        return told("state()", checker.state());
    }

    Probe look(int what) {
        return told("look(" + what + ")", checker.look(what));
    }

    Probe operand(int k) {
        return told("operand(" + k + ")", checker.operand(k));
    }

    Probe after(Consumer<Probe> calls) {
        calls.accept(this);
        return this;
    }

    Probe times(int times, Consumer<Probe> calls) {
        for (int i = 0; i < times; i++) {
            calls.accept(this);
        }
        return this;
    }

    /** One more function type: the parameters, and the results behind a 0. */
    Probe typeOf(int... parts) {
        type();
        boolean results = false;
        for (int t : parts) {
            if (t == 0) {
                results = true;
            } else {
                part(results, t);
            }
        }
        return this;
    }

    /** Operands by instructions that take nothing. */
    Probe push(int... types) {
        for (int t : types) {
            boolean reference = t == FUNC || t == OUT;
            step(reference ? 208 : 65 + W32 - t, reference ? t : 0).is(0);
        }
        return this;
    }

    /** All operands there are, the first one first. */
    Probe holds(int... types) {
        look(0).is(types.length);
        for (int k = 0; k < types.length; k++) {
            operand(k).is(types[types.length - 1 - k]);
        }
        return operand(types.length).is(-1);
    }

    Probe right(int instruction, int x, int y) {
        return step(instruction, x, y).is(0);
    }

    Probe right(int instruction, int x) {
        return right(instruction, x, 0);
    }

    Probe right(int instruction) {
        return right(instruction, 0, 0);
    }

    /** The fault that is due, behind which the code is no more. */
    Probe fault(int want, int instruction, int x, int y) {
        return step(instruction, x, y).is(want).state().is(0);
    }

    Probe fault(int want, int instruction, int x) {
        return fault(want, instruction, x, 0);
    }

    Probe fault(int want, int instruction) {
        return fault(want, instruction, 0, 0);
    }
}
