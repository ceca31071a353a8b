/** Promises 6 to 9 and 11 to 13: begin, constant, local, label, state, look, operand. */
public final class CodeTest {
    private static final Due due = new Due("CodeTest");

    public static void main(String[] args) {
        begin();
        constant();
        locals();
        manyLocals();
        localsRefused();
        labels();
        states();
        looks();
        operands();
        due.finish();
    }

    private static Bench bench() {
        return new Bench(due);
    }

    private static void begin() {
        Bench b = bench();
        for (int type : new int[] {-1, 11, 40, -64, Integer.MIN_VALUE, Integer.MAX_VALUE}) {
            due.is("begin(" + type + ")", b.checker.begin(type), false);
            due.is("state()", b.checker.state(), 0);
        }
        b.body(1).operands().looks(1, 1).looks(2, 0).looks(3, 1).looks(4, -1).looks(5, 2);
        b.right(32, 0).right(32, 1).operands(127, 126).right(2, -64).right(0, 0);
        due.is("begin(99) in code", b.checker.begin(99), false);
        b.looks(1, 2).operands(127, 126);
        b.body(8).operands().looks(1, 1).looks(3, 1).looks(5, 6);
        b.body(2).push(127).right(11, 0);
        due.is("begin(99) behind the end", b.checker.begin(99), false);
        due.is("state()", b.checker.state(), 2);
    }

    private static void constant() {
        Bench b = bench();
        for (int t : new int[] {0, 1, 128, 123, 113, 110, -1, -64, 2}) {
            due.is("constant(" + t + ", 0)", b.checker.constant(t, 0), false);
        }
        due.is("constant(127, -1)", b.checker.constant(127, -1), false);
        due.is("constant(127, MIN)", b.checker.constant(127, Integer.MIN_VALUE), false);
        due.is("state()", b.checker.state(), 0);
        for (int t : Bench.VALUE_TYPES) {
            b.constant(t, 0).operands().looks(1, 1).looks(2, 0).looks(3, 1).looks(4, -1).looks(5, 0);
            b.push(t).right(11, 0);
            due.is("state()", b.checker.state(), 2);
            b.constant(t, 0).push(t == 127 ? 126 : 127).fault(1, 11, 0, 0);
        }
        b.body(7).right(32, 0).constant(126, Integer.MAX_VALUE).operands().looks(5, 0);
        due.is("constant(1, 0) in code", b.checker.constant(1, 0), false);
        due.is("constant(127, -1) in code", b.checker.constant(127, -1), false);
        b.right(35, 1).right(11, 0);
        b.constant(126, 2).right(35, 1).right(11, 0);
        b.constant(126, 1).fault(14, 35, 1, 0);
        b.constant(127, 0).fault(14, 35, 0, 0);
    }

    private static void locals() {
        Bench b = bench();
        b.body(1);
        due.is("local(124, 2)", b.checker.local(124, 2), true);
        due.is("local(111, 0)", b.checker.local(111, 0), true);
        due.is("local(112, 1)", b.checker.local(112, 1), true);
        b.looks(5, 5);
        b.right(32, 0).right(32, 1).right(32, 2).right(32, 3).right(32, 4);
        b.operands(127, 126, 124, 124, 112);
        b.fault(12, 32, 5, 0);
        b.body(0).looks(5, 0).fault(12, 32, 0, 0);
    }

    private static void manyLocals() {
        Bench b = bench();
        b.body(9);
        long count = 1;
        for (int i = 0; i < 40; i++) {
            due.is("local(" + i + ")", b.checker.local(126, -1), true);
            count += 0xFFFFFFFFL;
            b.looks(5, count);
        }
        due.is("41st local", b.checker.local(126, 1), false);
        b.looks(5, count).right(32, -1).right(32, Integer.MIN_VALUE).operands(126, 126);

        b.body(9);
        due.is("local(125, MIN)", b.checker.local(125, Integer.MIN_VALUE), true);
        due.is("local(124, 1)", b.checker.local(124, 1), true);
        b.looks(5, 0x80000002L).right(32, Integer.MAX_VALUE).right(32, Integer.MIN_VALUE);
        b.right(32, Integer.MIN_VALUE + 1).operands(125, 125, 124);
        b.fault(12, 32, Integer.MIN_VALUE + 2, 0);

        b.body(7);
        for (int i = 0; i < 40; i++) {
            due.is("local with 12 parameters", b.checker.local(Bench.VALUE_TYPES[i % 6], 1), true);
        }
        due.is("41st local", b.checker.local(127, 0), false);
        b.looks(5, 52).right(32, 51).right(32, 12).right(32, 11).operands(124, 127, 127);
    }

    private static void localsRefused() {
        Bench b = bench();
        due.is("local without code", b.checker.local(127, 1), false);
        b.constant(127, 0);
        due.is("local in a constant", b.checker.local(127, 1), false);
        b.body(0);
        for (int t : new int[] {0, -1, 128, 123, 64}) {
            due.is("local(" + t + ", 1)", b.checker.local(t, 1), false);
        }
        b.labels(0);
        due.is("local behind a label", b.checker.local(127, 1), true);
        b.right(1, 0);
        due.is("local behind an instruction", b.checker.local(127, 1), false);
        b.looks(5, 1).body(0).right(11, 0);
        due.is("local behind the end", b.checker.local(127, 1), false);
        b.body(0);
        for (int i = 0; i < 50; i++) {
            due.is("wrong local", b.checker.local(1, 1), false);
        }
        for (int i = 0; i < 40; i++) {
            due.is("local of none", b.checker.local(127, 0), true);
        }
        due.is("41st local of none", b.checker.local(127, 0), false);
        b.looks(5, 0).body(0);
        due.is("local of new code", b.checker.local(127, 3), true);
        b.looks(5, 3);
    }

    private static void labels() {
        Bench b = bench();
        due.is("label without code", b.checker.label(0), -1);
        b.body(0);
        for (int i = 1; i <= 20; i++) {
            due.is("label(0)", b.checker.label(0), i);
        }
        due.is("21st label(0)", b.checker.label(0), -1);
        b.right(1, 0);
        due.is("label(9)", b.checker.label(9), 1);
        due.is("label(-1)", b.checker.label(-1), 2);
        b.body(0);
        due.is("label in new code", b.checker.label(3), 1);
        b.constant(127, 0);
        due.is("label in a constant", b.checker.label(3), 1);
        b.body(0).labels(3).push(127).right(14, 0);
        due.is("label behind 14", b.checker.label(0), 1);
        b.right(11, 0);
        due.is("label behind the end", b.checker.label(0), -1);
        b.body(0).push(127);
        for (int i = 1; i <= 20; i++) {
            b.labels(i == 20 ? 1 : 0);
        }
        b.fault(12, 14, 0, 0);
        b.body(0).push(127).labels(0, 5).constant(127, 0).body(0).push(127).right(14, 0);
    }

    private static void states() {
        Bench b = bench();
        b.body(0);
        due.is("state()", b.checker.state(), 1);
        b.right(2, -64).right(11, 0);
        due.is("state()", b.checker.state(), 1);
        b.right(11, 0);
        due.is("state()", b.checker.state(), 2);
        due.is("step(11)", b.checker.step(11, 0, 0), -1);
        due.is("step(-7)", b.checker.step(-7, 0, 0), -1);
        due.is("state()", b.checker.state(), 2);
        for (int what = 0; what < 6; what++) {
            b.looks(what, -1);
        }
        due.is("operand(0)", b.checker.operand(0), -1);
        b.constant(127, 0);
        due.is("state()", b.checker.state(), 1);
        b.fault(1, 11, 0, 0);
        due.is("step(1)", b.checker.step(1, 0, 0), -1);
        due.is("constant(9, 0)", b.checker.constant(9, 0), false);
        due.is("state()", b.checker.state(), 0);
        b.body(2).push(127).right(11, 0);
        due.is("operand(0) behind the end", b.checker.operand(0), -1);
        b.body(0).fault(1, 26, 0, 0);
    }

    private static void looks() {
        Bench b = bench();
        b.body(0).push(127, 126, 127).right(4, 0).looks(2, 2).looks(1, 2).looks(4, 4).looks(3, 1);
        b.right(5, 0).looks(4, 5).right(3, -64).looks(4, 3).looks(1, 3);
        b.push(127, 126).right(2, 5).looks(2, 2).looks(4, 2).looks(0, 4).operands(127, 126, 127, 126);
        b.right(0, 0).looks(3, 0).looks(0, 2).looks(2, 2);
        b.right(3, -64).looks(3, 1).looks(2, 2).right(11, 0).looks(3, 0).looks(1, 4);
        for (int what : new int[] {-1, 6, 7, Integer.MIN_VALUE, Integer.MAX_VALUE}) {
            b.looks(what, -1);
        }
    }

    private static void operands() {
        Bench b = bench();
        b.body(0).push(127, 126, 125, 124, 112, 111).operands(127, 126, 125, 124, 112, 111);
        due.is("operand(6)", b.checker.operand(6), -1);
        due.is("operand(-1)", b.checker.operand(-1), -1);
        due.is("operand(MIN)", b.checker.operand(Integer.MIN_VALUE), -1);
        due.is("operand(MAX)", b.checker.operand(Integer.MAX_VALUE), -1);
        Bench full = bench().body(0).push(111);
        for (int i = 1; i < 200; i++) {
            full.push(126);
        }
        due.is("operand(0) of 200", full.checker.operand(0), 126);
        due.is("operand(199) of 200", full.checker.operand(199), 111);
        due.is("operand(200) of 200", full.checker.operand(200), -1);
        b.right(2, -64);
        due.is("operand(0) below the height", b.checker.operand(0), 111);
        b.right(0, 0).right(27, 0).operands(127, 126, 125, 124, 112, 111, 0);
    }
}
