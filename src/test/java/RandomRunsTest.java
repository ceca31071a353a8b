/**
 * Long runs of calls, drawn by a fixed rule, on the program and on the Model: every answer must be the
 * same. The instructions are drawn so that most are right, or the code would never grow.
 */
public final class RandomRunsTest {
    private static final Due due = new Due("RandomRunsTest");
    private static final int RUNS = 3000;
    private static final int CALLS = 512;
    private static final int GROWING_OPERANDS = 0;
    private static final int GROWING_BLOCKS = 1;
    private static final int WANDERING = 2;
    private static final int[] OFTEN = {0, 2, 2, 3, 3, 4, 4, 5, 11, 11, 12, 13, 13, 14, 14, 14, 15, 16, 17, 26, 27, 27, 28,
        32, 33, 34, 35, 36, 37, 38, 65, 65, 65, 66, 67, 68, 208, 209, 210, 271, 273};
    private static final int[] ODD = {-1, 0, 1, 2, 3, 40, 64, 127, 126, 112, 111, -64, -2, -16, -17, -5, 31, 32, 33,
        Integer.MIN_VALUE, Integer.MAX_VALUE, 128, 255};

    private static final int[] faults = new int[16];
    private static long seed = 20261115L;

    private CodeChecker program;
    private Model model;
    private int left;
    private int bound;
    private int growth;
    private String story;

    public static void main(String[] args) {
        for (int run = 0; run < RUNS; run++) {
            new RandomRunsTest().run(run);
        }
        for (int fault = 0; fault < faults.length; fault++) {
            if (faults[fault] == 0) {
                due.fail("no run came to fault " + fault);
            }
        }
        System.out.println("steps by their faults: " + java.util.Arrays.toString(faults));
        due.finish();
    }

    private static int below(int bound) {
        seed = seed * 6364136223846793005L + 1442695040888963407L;
        return (int) ((seed >>> 33) % bound);
    }

    private static int of(int... numbers) {
        return numbers[below(numbers.length)];
    }

    private static int valueType() {
        return below(40) == 0 ? of(ODD) : of(127, 127, 126, 125, 124, 112, 111);
    }

    private void run(int number) {
        program = new CodeChecker();
        model = new Model();
        left = CALLS;
        bound = 1 + below(8);
        growth = below(5);
        story = "run " + number + ": ";
        int setup = below(120);
        for (int i = 0; i < setup; i++) {
            addSomething();
        }
        while (left > 0) {
            oneCall();
        }
    }

    private void is(String call, long got, long want) {
        left--;
        due.is(story + call, got, want);
    }

    private void is(String call, boolean got, boolean want) {
        is(call, got ? 1L : 0L, want ? 1L : 0L);
    }

    private void addSomething() {
        switch (below(8)) {
            case 0 -> is("type()", program.type(), model.type());
            case 1, 2, 3 -> {
                boolean result = below(2) == 0;
                int t = valueType();
                is("part(" + result + ", " + t + ")", program.part(result, t), model.part(result, t));
            }
            case 4, 5, 6 -> {
                int kind = below(30) == 0 ? of(ODD) : below(6);
                int a = kind == 0 ? number() : kind == 1 || kind == 4 ? of(112, 111, 112, 127) : valueType();
                int b = below(20) == 0 ? of(ODD) : below(2);
                is("add(" + kind + ", " + a + ", " + b + ")", program.add(kind, a, b), model.add(kind, a, b));
            }
            default -> {
                int function = number();
                is("declare(" + function + ")", program.declare(function), model.declare(function));
            }
        }
    }

    private int number() {
        return below(25) == 0 ? of(ODD) : below(bound);
    }

    private void oneCall() {
        int draw = below(100);
        if (model.state != 1 || draw < 1 && growth >= WANDERING) {
            startCode();
        } else if (draw < 4) {
            addSomething();
        } else if (draw < 6) {
            int label = number();
            is("label(" + label + ")", program.label(label), model.label(label));
        } else {
            instruction();
        }
    }

    private void startCode() {
        if (below(6) == 0) {
            int t = valueType();
            int globals = number();
            is("constant(" + t + ", " + globals + ")", program.constant(t, globals), model.constant(t, globals));
        } else {
            int type = number();
            is("begin(" + type + ")", program.begin(type), model.begin(type));
            if (below(100) < 5) {
                bound = 1 + below(8);
            }
        }
        int locals = below(60) == 0 ? 42 : below(4);
        for (int i = 0; i < locals; i++) {
            int t = valueType();
            int n = below(20) == 0 ? of(ODD) : below(4);
            is("local(" + t + ", " + n + ")", program.local(t, n), model.local(t, n));
        }
        is("state()", program.state(), model.state());
        if (model.state != 1 && below(3) == 0) {
            addSomething();
        }
    }

    private void look() {
        int number = below(40) == 0 ? of(ODD) : below(6);
        switch (below(5)) {
            case 0, 1 -> is("look(" + number + ")", program.look(number), model.look(number));
            case 2, 3 -> is("operand(" + number + ")", program.operand(number), model.operand(number));
            default -> is("state()", program.state(), model.state());
        }
    }

    private void instruction() {
        boolean anyWillDo = below(growth >= WANDERING ? 20 : 400) == 0;
        for (int tries = 0; tries < 25; tries++) {
            int n = below(80) == 0 ? of(ODD) : below(2) == 0 ? of(OFTEN) : below(275);
            int x = n == 28 || n == 208 ? valueType() : n >= 2 && n <= 4 && below(2) == 0 ? valueType() - 128 : number();
            int y = number();
            int[] labels = new int[n == 14 ? below(below(20) == 0 ? 23 : 4) : 0];
            for (int i = 0; i < labels.length; i++) {
                labels[i] = below(60) == 0 ? number() : below(3);
            }
            Model trial = model.copyOfCode();
            for (int label : labels) {
                trial.label(label);
            }
            if (anyWillDo || trial.step(n, x, y) == 0 && isWelcome(trial)) {
                take(n, x, y, labels);
                return;
            }
        }
        if (growth == GROWING_BLOCKS) {
            take(2, -64, 0, new int[0]);
        } else {
            take(growth >= WANDERING ? of(65, 11) : 65, 0, 0, new int[0]);
        }
    }

    /** Runs that grow come to the most operands and blocks; the others wander. */
    private boolean isWelcome(Model next) {
        if (next.state != 1) {
            return below(20) == 0;
        }
        if (growth == GROWING_OPERANDS && next.operands.size() <= model.operands.size()) {
            return below(20) == 0;
        }
        if (growth == GROWING_BLOCKS && next.blocks.size() <= model.blocks.size()) {
            return below(10) == 0;
        }
        boolean dies = next.look(3) == 0 && model.look(3) == 1;
        return !dies || below(4) == 0;
    }

    private void take(int n, int x, int y, int[] labels) {
        for (int label : labels) {
            is("label(" + label + ")", program.label(label), model.label(label));
        }
        int want = model.step(n, x, y);
        is("step(" + n + ", " + x + ", " + y + ")", program.step(n, x, y), want);
        faults[want]++;
        look();
    }
}
