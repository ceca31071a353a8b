/**
 * A checker with something of everything, and short ways to give it code.
 *
 * <p>Function types: 0 nothing; 1 w32 w64 > f32; 2 > w32; 3 w32 > w32; 4 w64 > w32; 5 w32 w64 > w32 w64;
 * 6 w32 w64 > w64 w32; 7 twelve w32 > twelve w32; 8 all six value types >; 9 w32 >; 10 w32 w64 > w32.
 */
final class Bench {
    static final int W32 = 127;
    static final int W64 = 126;
    static final int F32 = 125;
    static final int F64 = 124;
    static final int FUNC = 112;
    static final int OUT = 111;
    static final int[] VALUE_TYPES = {W32, W64, F32, F64, FUNC, OUT};

    final CodeChecker checker = new CodeChecker();
    private final Due due;
    private int calls;

    /** All of it, but for memories: they are added by addMemory. */
    Bench(Due due) {
        this.due = due;
        makeTypes();
        for (int type = 0; type < 11; type++) {
            checker.add(0, type, 0);
        }
        checker.declare(2);
        checker.add(1, FUNC, 0);
        checker.add(1, OUT, 0);
        checker.add(1, FUNC, 0);
        for (int t : VALUE_TYPES) {
            checker.add(3, t, 0);
        }
        for (int t : VALUE_TYPES) {
            checker.add(3, t, 1);
        }
        checker.add(4, FUNC, 0);
        checker.add(4, OUT, 0);
        checker.add(5, 0, 0);
        calls = 91;
    }

    /** The document says nothing of an object's calls behind the 512th one, so no test may need them. */
    private void count() {
        calls++;
        if (calls == 513) {
            due.fail("a test makes more than 512 calls on one object");
        }
    }

    private void makeTypes() {
        makeType(new int[] {}, new int[] {});
        makeType(new int[] {W32, W64}, new int[] {F32});
        makeType(new int[] {}, new int[] {W32});
        makeType(new int[] {W32}, new int[] {W32});
        makeType(new int[] {W64}, new int[] {W32});
        makeType(new int[] {W32, W64}, new int[] {W32, W64});
        makeType(new int[] {W32, W64}, new int[] {W64, W32});
        int[] twelve = new int[12];
        java.util.Arrays.fill(twelve, W32);
        makeType(twelve, twelve);
        makeType(VALUE_TYPES, new int[] {});
        makeType(new int[] {W32}, new int[] {});
        makeType(new int[] {W32, W64}, new int[] {W32});
    }

    private void makeType(int[] parameters, int[] results) {
        checker.type();
        for (int t : parameters) {
            checker.part(false, t);
        }
        for (int t : results) {
            checker.part(true, t);
        }
    }

    Bench addMemory() {
        checker.add(2, 0, 0);
        return this;
    }

    Bench body(int type) {
        count();
        due.is("begin(" + type + ")", checker.begin(type), true);
        return this;
    }

    Bench constant(int type, int globals) {
        count();
        due.is("constant(" + type + ", " + globals + ")", checker.constant(type, globals), true);
        return this;
    }

    /** Brings operands by instructions that need nothing. */
    Bench push(int... types) {
        for (int t : types) {
            if (t == FUNC || t == OUT) {
                right(208, t);
            } else {
                right(65 + W32 - t, 0);
            }
        }
        return this;
    }

    Bench labels(int... numbers) {
        for (int number : numbers) {
            count();
            checker.label(number);
        }
        return this;
    }

    Bench right(int instruction, int x) {
        return step(instruction, x, 0, 0);
    }

    Bench right(int instruction, int x, int y) {
        return step(instruction, x, y, 0);
    }

    /** The fault that is due, and that the code is no more behind it. */
    void fault(int want, int instruction, int x, int y) {
        step(instruction, x, y, want);
        count();
        due.is("state() behind fault " + want + " of " + instruction, checker.state(), 0);
        count();
        due.is("look(0) behind fault " + want + " of " + instruction, checker.look(0), -1);
    }

    private Bench step(int instruction, int x, int y, int want) {
        String call = "step(" + instruction + ", " + x + ", " + y + ")";
        count();
        due.is(call, checker.step(instruction, x, y), want);
        return this;
    }

    /** All operands, the first one first. */
    Bench operands(int... types) {
        count();
        due.is("look(0)", checker.look(0), types.length);
        for (int i = 0; i < types.length; i++) {
            int k = types.length - 1 - i;
            count();
            due.is("operand(" + k + ")", checker.operand(k), types[i]);
        }
        return this;
    }

    Bench looks(int what, long want) {
        count();
        due.is("look(" + what + ")", checker.look(what), want);
        return this;
    }
}
