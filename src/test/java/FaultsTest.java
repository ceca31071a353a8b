/** Promise 10: each FAULT from 1 to 15, and which one comes first where two would do. */
public final class FaultsTest {
    private static final Due due = new Due("FaultsTest");
    private static final int[] BYTES = {
        4, 8, 4, 8, 1, 1, 2, 2, 1, 1, 2, 2, 4, 4, 4, 8, 4, 8, 1, 2, 1, 2, 4
    };

    public static void main(String[] args) {
        fault1();
        fault2();
        fault3();
        fault4();
        fault5();
        fault6();
        fault7();
        fault8();
        fault9();
        fault10();
        fault11();
        fault12();
        fault12Ahead();
        fault13();
        fault14();
        fault15Blocks();
        fault15Operands();
        fault15Gives();
        fault15Behind();
        due.finish();
    }

    private static Bench bench() {
        return new Bench(due);
    }

    private static void fault1() {
        Bench b = bench();
        b.body(0).fault(1, 26, 0, 0);
        b.body(0).push(126).fault(1, 69, 0, 0);
        b.body(0).push(127, 126).fault(1, 106, 0, 0);
        b.body(0).push(126, 127).fault(1, 106, 0, 0);
        b.body(0).push(127).right(2, -64).fault(1, 69, 0, 0);
        b.body(0).right(0, 0).push(125).fault(1, 106, 0, 0);
        b.body(0).push(112).fault(1, 38, 1, 0);
        b.body(0).push(127, 112).fault(1, 38, 1, 0);
    }

    private static void fault2() {
        Bench b = bench();
        b.body(0).fault(2, 5, 0, 0);
        b.body(0).right(0, 0).fault(2, 5, 0, 0);
        b.body(0).right(2, -1).fault(2, 5, 0, 0);
        b.body(0).right(3, -1).fault(2, 5, 0, 0);
        b.body(0).push(127).right(4, -64).right(2, -64).fault(2, 5, 0, 0);
        b.body(0).push(127).right(4, -64).right(5, 0).fault(2, 5, 0, 0);
        b.body(0).push(127).right(4, -1).push(127).right(5, 0).fault(2, 5, 99, 99);
        b.body(0).push(127).right(4, -64).right(11, 0).fault(2, 5, 0, 0);
        b.body(0).push(127).right(4, -64).right(2, -64).right(11, 0).right(5, 0);
    }

    private static void fault3() {
        Bench b = bench();
        b.body(0).push(127).fault(3, 11, 0, 0);
        b.body(2).push(127, 127).fault(3, 11, 0, 0);
        b.body(2).push(127, 126).fault(1, 11, 0, 0);
        b.body(0).right(2, -1).push(126, 127).fault(3, 11, 0, 0);
        b.body(0).right(0, 0).push(127).fault(3, 11, 0, 0);
        b.body(0).push(127).right(4, -64).push(127).fault(3, 5, 0, 0);
        b.body(0).push(127).right(4, -1).push(126, 127).fault(3, 5, 0, 0);
        b.body(0).push(127).right(4, -1).push(127, 126).fault(1, 5, 0, 0);
        b.body(0).push(127).right(4, -1).fault(1, 5, 0, 0);
        b.body(0).push(127).right(4, -64).right(0, 0).push(127).fault(3, 5, 0, 0);
    }

    private static void fault4() {
        Bench b = bench();
        b.body(0).push(127).right(4, -1).push(127).fault(4, 11, 0, 0);
        b.body(0).push(127).right(4, -1).fault(1, 11, 0, 0);
        b.body(0).push(127).right(4, -1).push(127, 127).fault(3, 11, 0, 0);
        b.body(0).push(126, 127).right(4, 4).right(26, 0).push(127).fault(4, 11, 0, 0);
        b.body(0).push(126, 127).right(4, 4).right(26, 0).push(127).right(5, 0).right(26, 0).push(127).right(11, 0);
        b.body(0).push(127, 127).right(4, 3).right(11, 0).operands(127);
        b.body(0).right(2, -1).push(127).right(11, 0).operands(127);
        likeButForTheLast();
    }

    private static void likeButForTheLast() {
        CodeChecker x = new CodeChecker();
        x.type();
        for (int i = 0; i < 12; i++) {
            x.part(false, 127);
            x.part(true, i == 11 ? 126 : 127);
        }
        x.begin(0);
        for (int i = 0; i < 13; i++) {
            x.step(65, 0, 0);
        }
        due.is("step(4, 0)", x.step(4, 0, 0), 0);
        x.step(26, 0, 0);
        x.step(66, 0, 0);
        due.is("step(11), the last parts differ", x.step(11, 0, 0), 4);
    }

    private static void fault5() {
        Bench b = bench();
        b.body(0).right(2, -1).push(127, 127).labels(1).fault(5, 14, 0, 0);
        b.body(0).right(2, -1).push(127, 127).labels(0).fault(5, 14, 1, 0);
        b.body(0).right(2, -1).push(127).labels(1).fault(5, 14, 0, 0);
        b.body(0).right(2, -1).push(126).labels(1).fault(1, 14, 0, 0);
        b.body(0).right(2, -1).labels(1).fault(1, 14, 0, 0);
        b.body(0).right(2, -1).right(0, 0).labels(1).fault(5, 14, 0, 0);
        // One label behind the other: the first one is taken before the second one is counted.
        b.body(0).right(2, -1).push(126, 127).labels(0, 1).fault(1, 14, 0, 0);
        b.body(0).right(2, -1).push(127, 127).labels(0, 1).fault(5, 14, 0, 0);
        b.body(0).right(2, -1).push(126, 127).labels(1, 0).fault(5, 14, 0, 0);
        // A block begun by 3 counts by its parameters.
        b.body(0).push(127).right(3, 9).right(2, -1).push(127, 127).labels(1).right(14, 0);
        b.body(0).push(127).right(3, 9).right(2, -1).push(127, 127).labels(1, 2).fault(5, 14, 0, 0);
    }

    private static void fault6() {
        Bench b = bench();
        b.body(0).push(127).fault(6, 17, 0, 1);
        b.body(0).fault(6, 17, 0, 1);
        b.body(0).push(127).right(17, 0, 2);
        b.body(0).fault(6, 268, 0, 1);
        b.body(0).fault(6, 268, 1, 0);
        b.body(0).fault(1, 268, 1, 1);
        b.body(0).fault(6, 270, 0, 1);
        b.body(0).fault(6, 270, 1, 2);
        b.body(0).fault(1, 270, 0, 2);
        b.body(0).push(127, 127, 127).right(270, 2, 0).operands();
    }

    private static void fault7() {
        Bench b = bench();
        for (int t : new int[] {112, 111}) {
            b.body(0).push(t, t, 127).fault(7, 27, 0, 0);
            b.body(0).push(127, t, 127).fault(7, 27, 0, 0);
            b.body(0).push(t, 127, 127).fault(7, 27, 0, 0);
            b.body(0).right(0, 0).push(t, 127).fault(7, 27, 0, 0);
            b.body(0).push(t, t, 126).fault(1, 27, 0, 0);
        }
        b.body(0).push(112, 111, 127).fault(7, 27, 0, 0);
        b.body(0).push(112, 127).fault(1, 27, 0, 0);
        b.body(0).push(127).fault(7, 209, 0, 0);
        b.body(0).right(0, 0).push(126).fault(7, 209, 0, 0);
    }

    private static void fault8() {
        Bench b = bench();
        for (int global = 0; global < 6; global++) {
            b.body(0).fault(8, 36, global, 0);
            b.body(0).push(Bench.VALUE_TYPES[global]).fault(8, 36, global, 0);
            b.body(0).fault(1, 36, global + 6, 0);
        }
    }

    private static void fault9() {
        Bench b = bench();
        for (int n = 40; n <= 64; n++) {
            b.body(0).fault(9, n, 0, 0);
            b.body(0).right(0, 0).fault(9, n, 99, 0);
        }
        for (int n : new int[] {264, 266, 267}) {
            b.body(0).fault(9, n, 0, 0);
            b.body(0).right(0, 0).fault(9, n, 0, 0);
        }
        b.body(0).right(265, 0);
        b.addMemory();
        b.right(63, 0).operands(127).right(64, 0).operands(127);
    }

    private static void fault10() {
        for (int n = 40; n <= 62; n++) {
            Bench b = bench().addMemory();
            for (int x = 0; x <= 40; x++) {
                boolean fits = x < 10 && (1 << x) <= BYTES[n - 40];
                b.body(0).fault(fits ? 1 : 10, n, x, 0);
                if (fits) {
                    b.body(0).right(0, 0).right(n, x);
                }
            }
            for (int x : new int[] {64, 256, 1 << 30, Integer.MIN_VALUE, -1, Integer.MAX_VALUE, -32}) {
                b.body(0).fault(10, n, x, 0);
            }
        }
        Bench b = bench();
        b.body(0).fault(9, 40, 3, 0);
        b.addMemory().addMemory().body(0).push(127).right(40, 2);
    }

    private static void fault11() {
        Bench b = bench();
        b.body(0).right(210, 2).operands(112);
        b.body(0).fault(11, 210, 0, 0);
        b.constant(112, 0).fault(11, 210, 3, 0);
    }

    private static void fault12() {
        int[][] counts = {
            {2, 11}, {3, 11}, {4, 11}, {12, 1}, {13, 1}, {14, 1}, {16, 11}, {17, 11}, {32, 6}, {33, 6},
            {34, 6}, {35, 12}, {36, 12}, {37, 3}, {38, 3}, {210, 11}, {264, 1}, {265, 1}, {268, 2},
            {269, 2}, {270, 3}, {271, 3}, {272, 3}, {273, 3}
        };
        for (int[] row : counts) {
            Bench b = bench();
            boolean isBlockType = row[0] <= 4;
            b.body(8).fault(12, row[0], row[1], 0);
            b.body(8).fault(12, row[0], row[1] + 30, 0);
            b.body(8).fault(12, row[0], Integer.MAX_VALUE, 0);
            b.body(8).fault(isBlockType ? 13 : 12, row[0], Integer.MIN_VALUE, 0);
            b.body(8).fault(isBlockType ? 13 : 12, row[0], -129, 0);
            b.body(8).right(0, 0).fault(12, row[0], row[1], 0);
            if (!isBlockType) {
                b.body(8).fault(12, row[0], -1, 0);
            }
        }
        for (int n : new int[] {17, 268, 270}) {
            Bench b = bench();
            b.body(8).fault(12, n, 0, 3);
            b.body(8).fault(12, n, 0, -1);
            b.body(8).fault(12, n, 99, 99);
        }
    }

    private static void fault12Ahead() {
        Bench b = bench();
        b.body(0).fault(12, 17, 11, 1);
        b.body(0).fault(12, 264, 1, 0);
        b.body(0).fault(12, 268, 0, 3);
        b.body(0).push(127).labels(0, 1).fault(12, 14, 0, 0);
        b.body(0).labels(-1).fault(12, 14, 0, 0);
        b.body(0).labels(0).fault(12, 14, 1, 0);
        b.body(0).right(2, -1).push(127).labels(1, 2).fault(12, 14, 0, 0);
        b.body(0).push(127).labels(7).right(13, 0);
        b.body(0).right(2, -1).push(127).right(12, 0).right(11, 0).fault(12, 12, 1, 0);
        b.body(0);
        for (int i = 1; i < 60; i++) {
            b.right(3, -64);
        }
        b.fault(12, 3, 11, 0);
    }

    private static void fault13() {
        Bench b = bench();
        for (int n = 2; n <= 4; n++) {
            for (int x : new int[] {-5, -15, -18, -63, -65, -128, -127, -100, Integer.MIN_VALUE}) {
                b.body(0).push(127).fault(13, n, x, 0);
            }
            for (int t : Bench.VALUE_TYPES) {
                b.body(0).push(127).right(n, t - 128);
            }
            b.body(0).push(127).fault(12, n, 127, 0);
            b.body(0).fault(13, n, -5, 0);
        }
        b = bench();
        for (int x : new int[] {0, -1, 128, 123, 113, 110, 64, -64, 127 + 256}) {
            b.body(0).push(127, 127, 127).fault(13, 28, x, 0);
            b.body(0).fault(13, 208, x, 0);
        }
        for (int x : new int[] {127, 126, 125, 124}) {
            b.body(0).fault(13, 208, x, 0);
        }
        for (int n : new int[] {2, 28, 208, 6, 999}) {
            b.constant(127, 0).fault(13, n, -5, 0);
        }
    }

    private static void fault14() {
        Bench b = bench();
        int inOne = 0;
        for (int n = 0; n <= 273; n++) {
            boolean instruction = n <= 5 || n >= 11 && n <= 17 || n >= 26 && n <= 28 || n >= 32 && n <= 38
                    || n >= 40 && n <= 196 || n >= 208 && n <= 210 || n >= 256;
            boolean allowed = n == 11 || n >= 65 && n <= 68 || n == 208 || n == 210;
            if (!instruction || allowed) {
                continue;
            }
            inOne++;
            if (inOne % 50 == 0) {
                b = bench();
            }
            b.constant(127, 0).fault(14, n, n == 28 ? 127 : 0, 0);
            b.constant(127, 0).fault(14, n, n == 28 ? 127 : 99, 99);
        }
        b = bench();
        b.constant(127, 40).fault(14, 35, 6, 0);
        b.constant(127, 40).fault(14, 35, 12, 0);
        b.constant(127, 40).fault(14, 35, -1, 0);
        b.constant(127, Integer.MAX_VALUE).fault(14, 35, Integer.MIN_VALUE, 0);
        b.constant(127, 3).right(35, 0).right(35, 2).fault(14, 35, 3, 0);
        b.constant(127, 40).fault(12, 210, 11, 0);
        b.constant(127, 40).fault(11, 210, 0, 0);
        b.constant(127, 40).fault(1, 11, 0, 0);
        b.constant(127, 0).labels(0).fault(14, 14, 0, 0);
        b.body(0).right(35, 6);
    }

    private static void fault15Blocks() {
        for (int opener = 2; opener <= 4; opener++) {
            Bench b = bench();
            b.body(0);
            for (int i = 1; i < 60; i++) {
                openOne(b, opener);
            }
            b.looks(1, 60);
            b.right(11, 0).looks(1, 59);
            openOne(b, opener);
            if (opener == 4) {
                b.push(127);
            }
            b.fault(15, opener, -64, 0);
        }
    }

    private static void openOne(Bench b, int opener) {
        if (opener == 4) {
            b.push(127);
        }
        b.right(opener, -64);
    }

    private static void fault15Operands() {
        Bench b = bench();
        b.body(0);
        for (int i = 0; i < 200; i++) {
            b.push(127);
        }
        b.looks(0, 200).right(106, 0).looks(0, 199).push(127).looks(0, 200).right(69, 0);
        b.right(2, -64).looks(2, 200).right(0, 0).fault(15, 65, 0, 0);

        Bench c = full(bench(), 200);
        c.right(26, 0).right(26, 0).push(126, 127).fault(15, 35, 0, 0);

        Bench d = bench();
        d.constant(127, 0);
        for (int i = 0; i < 200; i++) {
            d.right(65, 0);
        }
        d.fault(15, 208, 112, 0);
    }

    private static Bench full(Bench b, int operands) {
        b.body(8);
        for (int i = 0; i < operands; i++) {
            b.push(127);
        }
        return b;
    }

    private static void fault15Gives() {
        full(bench().addMemory(), 200).fault(15, 63, 0, 0);
        full(bench(), 200).fault(15, 272, 0, 0);
        full(bench(), 200).fault(15, 210, 2, 0);
        full(bench(), 200).fault(15, 32, 0, 0);
        full(bench(), 200).fault(15, 16, 2, 0);
        full(bench(), 200).right(16, 3).right(17, 2, 0).looks(0, 200);
        // What a DEAD block had not, but gives: parameters, results, labels, what was UNKNOWN.
        dead(196).fault(15, 2, 7, 0);
        dead(188).right(2, 7).looks(0, 200);
        dead(189).fault(15, 3, 7, 0);
        dead(189).fault(15, 16, 7, 0);
        dead(188).right(16, 7).looks(0, 200);
        dead(200).fault(15, 27, 0, 0);
        dead(200).fault(15, 209, 0, 0);
        dead(200).fault(15, 34, 0, 0);
        dead(200).fault(15, 106, 0, 0);
        dead(200).right(26, 0).right(33, 0).right(12, 0).right(15, 0).looks(0, 200);
        closing(199).right(11, 0).looks(0, 200);
        closing(200).fault(15, 11, 0, 0);
        Bench b = full(bench(), 199).right(2, 2).right(0, 0).right(13, 0).looks(0, 200);
        b.right(11, 0).looks(0, 200);
        full(bench(), 200).right(2, 2).right(0, 0).fault(15, 13, 0, 0);
        full(bench(), 200).right(2, 2).right(0, 0).right(14, 0).looks(0, 200);
        full(bench(), 200).right(2, 2).right(0, 0).labels(0).fault(15, 14, 0, 0);
        full(bench(), 199).right(2, 2).right(0, 0).labels(0, 0).right(14, 0).looks(0, 199);
    }

    private static Bench dead(int below) {
        return full(bench(), below).right(2, -64).right(0, 0).looks(2, below);
    }

    private static Bench closing(int below) {
        return full(bench(), below).right(2, 2).right(0, 0);
    }

    private static void fault15Behind() {
        // The parameters and 4's operand are taken ahead of the block, which is one too many.
        Bench b = bench();
        b.body(0);
        for (int i = 1; i < 60; i++) {
            b.right(2, -64);
        }
        b.looks(1, 60).fault(1, 2, 5, 0);
        Bench c = bench();
        c.body(0);
        for (int i = 1; i < 60; i++) {
            c.right(2, -64);
        }
        c.fault(1, 4, -64, 0);
        full(bench(), 200).fault(1, 16, 1, 0);
        full(bench(), 200).fault(12, 35, 99, 0);
        // Faults 5 and 15 of 14, in the order of its labels.
        full(bench(), 200).right(2, 2).right(0, 0).labels(0, 1).fault(15, 14, 0, 0);
        full(bench(), 200).right(2, 2).right(0, 0).labels(1, 0).fault(5, 14, 0, 0);
    }
}
