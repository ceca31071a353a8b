/**
 * Promise 10, instruction by instruction: what each takes and gives, that nothing less and nothing else
 * will do, that a DEAD block gives what is missing, and which numbers are no instructions.
 */
public final class InstructionsTest {
    private static final Due due = new Due("InstructionsTest");

    /**
     * First and last number, x, y, and the operands, the last one taken first.
     * i l f d: w32 w64 f32 f64; F X: references to functions, to what is outside.
     */
    private static final String[] SIGNATURES = {
        "1-1 0 0 >",
        "16-16 0 0 >", "16-16 1 0 il>f", "16-16 2 0 >i", "16-16 6 0 il>li", "16-16 8 0 ilfdFX>",
        "17-17 0 0 i>", "17-17 1 0 ili>f", "17-17 5 2 ili>il", "17-17 8 0 ilfdFXi>",
        "28-28 127 0 iii>i", "28-28 126 0 lli>l", "28-28 125 0 ffi>f", "28-28 124 0 ddi>d",
        "28-28 112 0 FFi>F", "28-28 111 0 XXi>X",
        "32-32 0 0 >i", "32-32 1 0 >l", "32-32 2 0 >f", "32-32 3 0 >d", "32-32 4 0 >F", "32-32 5 0 >X",
        "33-33 0 0 i>", "33-33 1 0 l>", "33-33 2 0 f>", "33-33 3 0 d>", "33-33 4 0 F>", "33-33 5 0 X>",
        "34-34 0 0 i>i", "34-34 1 0 l>l", "34-34 2 0 f>f", "34-34 3 0 d>d", "34-34 4 0 F>F", "34-34 5 0 X>X",
        "35-35 0 0 >i", "35-35 1 0 >l", "35-35 2 0 >f", "35-35 3 0 >d", "35-35 4 0 >F", "35-35 5 0 >X",
        "35-35 6 0 >i", "35-35 11 0 >X",
        "36-36 6 0 i>", "36-36 7 0 l>", "36-36 8 0 f>", "36-36 9 0 d>", "36-36 10 0 F>", "36-36 11 0 X>",
        "37-37 0 0 i>F", "37-37 1 0 i>X", "38-38 0 0 iF>", "38-38 1 0 iX>",
        "40-40 0 0 i>i", "41-41 0 0 i>l", "42-42 0 0 i>f", "43-43 0 0 i>d", "44-47 0 0 i>i", "48-53 0 0 i>l",
        "54-54 0 0 ii>", "55-55 0 0 il>", "56-56 0 0 if>", "57-57 0 0 id>", "58-59 0 0 ii>", "60-62 0 0 il>",
        "63-63 0 0 >i", "64-64 0 0 i>i",
        "65-65 0 0 >i", "66-66 0 0 >l", "67-67 0 0 >f", "68-68 0 0 >d",
        "69-69 0 0 i>i", "70-79 0 0 ii>i", "80-80 0 0 l>i", "81-90 0 0 ll>i",
        "91-96 0 0 ff>i", "97-102 0 0 dd>i",
        "103-105 0 0 i>i", "106-120 0 0 ii>i", "121-123 0 0 l>l", "124-138 0 0 ll>l",
        "139-145 0 0 f>f", "146-152 0 0 ff>f", "153-159 0 0 d>d", "160-166 0 0 dd>d",
        "167-167 0 0 l>i", "168-169 0 0 f>i", "170-171 0 0 d>i", "172-173 0 0 i>l", "174-175 0 0 f>l",
        "176-177 0 0 d>l", "178-179 0 0 i>f", "180-181 0 0 l>f", "182-182 0 0 d>f", "183-184 0 0 i>d",
        "185-186 0 0 l>d", "187-187 0 0 f>d", "188-188 0 0 f>i", "189-189 0 0 d>l", "190-190 0 0 i>f",
        "191-191 0 0 l>d", "192-193 0 0 i>i", "194-196 0 0 l>l",
        "208-208 112 0 >F", "208-208 111 0 >X", "210-210 2 0 >F",
        "256-257 0 0 f>i", "258-259 0 0 d>i", "260-261 0 0 f>l", "262-263 0 0 d>l",
        "264-264 0 0 iii>", "265-265 0 0 >", "266-267 0 0 iii>", "268-268 0 0 iii>", "268-268 0 2 iii>",
        "268-268 1 1 iii>", "269-269 0 0 >", "269-269 1 0 >", "270-270 0 2 iii>", "270-270 1 1 iii>",
        "271-271 0 0 Fi>i", "271-271 1 0 Xi>i", "272-272 0 0 >i", "272-272 2 0 >i",
        "273-273 0 0 iFi>", "273-273 1 0 iXi>"
    };

    public static void main(String[] args) {
        for (String signature : SIGNATURES) {
            signature(signature);
        }
        numbers();
        dropping();
        choosing();
        isNull();
        deadAndBack();
        blocks();
        loops();
        ifAndElse();
        ends();
        branches();
        branchesByRow();
        returns();
        constants();
        due.finish();
    }

    private static Bench bench() {
        return new Bench(due).addMemory().body(8);
    }

    private static void signature(String text) {
        String[] words = text.split(" ");
        String[] range = words[0].split("-");
        String[] sides = (words[3] + " ").split(">");
        int[] takes = types(sides[0]);
        int[] gives = types(sides[1].trim());
        int x = Integer.parseInt(words[1]);
        int y = Integer.parseInt(words[2]);
        for (int n = Integer.parseInt(range[0]); n <= Integer.parseInt(range[1]); n++) {
            Bench b = bench();
            b.push(takes).right(n, x, y).operands(gives);
            b.body(8).push(111, 124).push(takes).right(n, x, y).operands(joined(new int[] {111, 124}, gives));
            b.body(8).right(0, 0).right(n, x, y).operands(gives).looks(3, 0);
            notEnough(b, n, x, y, takes);
            otherTypes(n, x, y, takes);
        }
    }

    private static void notEnough(Bench b, int n, int x, int y, int[] takes) {
        for (int missing = 1; missing <= takes.length; missing++) {
            int[] rest = java.util.Arrays.copyOfRange(takes, missing, takes.length);
            b.body(8).push(rest).fault(1, n, x, y);
            b.body(8).push(java.util.Arrays.copyOf(takes, missing)).right(2, -64).push(rest).fault(1, n, x, y);
            b.body(8).right(0, 0).push(rest).right(n, x, y);
        }
    }

    private static void otherTypes(int n, int x, int y, int[] takes) {
        for (int i = 0; i < takes.length; i++) {
            for (int other : Bench.VALUE_TYPES) {
                int[] changed = takes.clone();
                changed[i] = other;
                if (other != takes[i]) {
                    Bench b = bench();
                    b.push(changed).fault(1, n, x, y);
                    b.body(8).right(0, 0).push(changed).fault(1, n, x, y);
                }
            }
        }
    }

    private static int[] joined(int[] a, int[] b) {
        int[] both = java.util.Arrays.copyOf(a, a.length + b.length);
        System.arraycopy(b, 0, both, a.length, b.length);
        return both;
    }

    private static int[] types(String letters) {
        int[] types = new int[letters.length()];
        for (int i = 0; i < types.length; i++) {
            types[i] = Bench.VALUE_TYPES["ilfdFX".indexOf(letters.charAt(i))];
        }
        return types;
    }

    private static void numbers() {
        int[] ranges = {0, 5, 11, 17, 26, 28, 32, 38, 40, 196, 208, 210, 256, 273};
        Bench b = bench();
        int calls = 0;
        for (int n = -300; n <= 600; n++) {
            boolean known = false;
            for (int i = 0; i < ranges.length; i += 2) {
                known |= n >= ranges[i] && n <= ranges[i + 1];
            }
            if (!known) {
                calls += 2;
                if (calls > 200) {
                    b = bench();
                    calls = 0;
                }
                b.body(8).fault(13, n, 127, 0);
            }
        }
        for (int n : new int[] {Integer.MIN_VALUE, Integer.MAX_VALUE, 65536, 65 + 256 * 256, -256 + 65}) {
            bench().fault(13, n, 0, 0);
        }
    }

    private static void dropping() {
        Bench b = bench();
        b.push(Bench.VALUE_TYPES);
        for (int i = 5; i >= 0; i--) {
            b.right(26, 0).operands(java.util.Arrays.copyOf(Bench.VALUE_TYPES, i));
        }
        b.fault(1, 26, 0, 0);
        b.body(8).right(0, 0).right(26, 0).operands();
        b.body(8).push(127).right(2, -64).fault(1, 26, 0, 0);
        b.body(8).push(127).right(2, -64).right(0, 0).right(26, 0).operands(127);
    }

    private static void choosing() {
        Bench b = bench();
        for (int t : new int[] {127, 126, 125, 124}) {
            b.body(8).push(t, t, 127).right(27, 0).operands(t);
            b.body(8).right(0, 0).push(t, 127).right(27, 0).operands(t);
            b.body(8).right(0, 0).right(27, 0).push(t, 127).right(27, 0).operands(t);
            b.body(8).right(0, 0).push(t).right(2, -64).right(0, 0).right(27, 0).operands(t, 0);
            b.body(8).push(t, t, 126).fault(1, 27, 0, 0);
            b.body(8).push(t, 127).fault(1, 27, 0, 0);
            b.body(8).push(t == 127 ? 126 : 127, t, 127).fault(1, 27, 0, 0);
        }
        b = bench();
        b.right(0, 0).right(27, 0).operands(0).right(27, 0).operands(0);
        b.push(125).operands(0, 125).push(127).right(27, 0).operands(125);
        b.body(8).push(127).fault(1, 27, 0, 0);
        b.body(8).fault(1, 27, 0, 0);
    }

    private static void isNull() {
        Bench b = bench();
        b.push(112).right(209, 0).operands(127);
        b.body(8).push(124, 111).right(209, 0).operands(124, 127);
        b.body(8).right(0, 0).right(209, 0).operands(127);
        b.body(8).right(0, 0).right(27, 0).right(209, 0).operands(127);
        b.body(8).fault(1, 209, 0, 0);
        for (int t : new int[] {127, 126, 125, 124}) {
            b.body(8).push(112, t).fault(7, 209, 0, 0);
        }
    }

    private static void deadAndBack() {
        Bench b = bench();
        b.push(127, 126).right(2, -64).push(125, 124).right(0, 0).looks(3, 0).operands(127, 126);
        b.right(0, 0).right(1, 0).looks(3, 0).operands(127, 126);
        b.push(125).operands(127, 126, 125).right(26, 0).right(26, 0).right(26, 0).operands(127, 126);
        b.right(11, 0).looks(3, 1).operands(127, 126).right(26, 0).operands(127);
        b.body(2).right(0, 0).right(106, 0).operands(127).right(11, 0);
        b.body(2).right(0, 0).push(126).fault(1, 11, 0, 0);
        b.body(2).right(0, 0).push(127, 127).fault(3, 11, 0, 0);
        b.body(2).right(0, 0).right(11, 0);
    }

    private static void blocks() {
        Bench b = bench();
        for (int opener = 2; opener <= 3; opener++) {
            b.body(8).push(124, 127, 126).right(opener, 5).looks(2, 1).looks(1, 2).looks(4, opener);
            b.looks(3, 1).operands(124, 127, 126).right(11, 0).operands(124, 127, 126).looks(1, 1);
            for (int t : Bench.VALUE_TYPES) {
                b.body(8).push(126).right(opener, t - 128).operands(126).looks(2, 1);
                b.push(t).right(11, 0).operands(126, t);
            }
            b = bench();
            b.body(8).push(127, 126).right(opener, 6).right(26, 0).right(26, 0).push(126, 127).right(11, 0);
            b.operands(126, 127);
            b.body(8).push(127).fault(1, opener, 5, 0);
            b.body(8).push(126, 127).fault(1, opener, 5, 0);
            b.body(8).right(0, 0).right(opener, 5).operands(127, 126).looks(2, 0).looks(3, 1);
            b.body(8).right(0, 0).push(126).right(opener, 5).operands(127, 126).right(11, 0).looks(3, 0);
            b.operands(127, 126);
            b.body(8).right(0, 0).right(27, 0).right(27, 0).right(opener, 9).operands(127);
            b.body(8).right(opener, -64).looks(2, 0).operands().right(11, 0).operands();
        }
    }

    private static void loops() {
        Bench b = bench();
        b.push(127, 126).right(3, 1).right(12, 0).looks(3, 0).operands().right(11, 0).operands(125);
        b.body(8).push(127, 126).right(3, 1).push(127).right(13, 0).operands(127, 126);
        b.body(8).push(127, 126).right(3, 1).push(125).fault(1, 12, 0, 0);
        b.body(8).right(3, -1).right(12, 0).right(11, 0).operands(127);
        b.body(8).right(2, -1).fault(1, 12, 0, 0);
        b.body(8).push(127, 126).right(2, 1).fault(1, 12, 0, 0);
        b.body(8).push(127, 126).right(2, 1).push(125).right(12, 0).right(11, 0).operands(125);
    }

    private static void ifAndElse() {
        Bench b = bench();
        b.push(125, 127, 126, 127).right(4, 5).looks(4, 4).looks(2, 1).operands(125, 127, 126);
        b.right(5, 0).looks(4, 5).looks(3, 1).looks(2, 1).looks(1, 2).operands(125, 127, 126);
        b.right(11, 0).operands(125, 127, 126).looks(1, 1);
        b.body(8).push(127, 126, 127).right(4, 5).right(11, 0).operands(127, 126);
        b.body(8).push(127).right(4, -64).right(11, 0).operands();
        b.body(8).push(127).right(4, 0).right(11, 0).operands();
        b.body(8).push(127).right(4, -1).push(127).fault(4, 11, 0, 0);
        b.body(8).push(127, 126, 127).right(4, 6).right(26, 0).right(26, 0).push(126, 127).fault(4, 11, 0, 0);
        b.body(8).push(127, 126, 127).right(4, 10).right(26, 0).fault(4, 11, 0, 0);
        b.body(8).push(127, 127).right(4, 9).right(26, 0).fault(4, 11, 0, 0);
        b = bench();
        b.push(127).right(4, -1).right(0, 0).fault(4, 11, 0, 0);
        b.body(8).push(127).right(4, -1).right(0, 0).looks(3, 0).right(5, 0).looks(3, 1).push(127);
        b.right(11, 0).operands(127).looks(3, 1);
        b.body(8).push(127).right(4, -1).push(127).right(12, 0).right(5, 0).right(0, 0).right(11, 0).operands(127);
        b.body(8).push(127).right(4, -1).push(127).right(5, 0).fault(1, 11, 0, 0);
        b.body(8).push(127).right(4, -1).push(127).right(5, 0).push(127).right(12, 0).right(11, 0);
        b.body(8).push(126).fault(1, 4, -64, 0);
        b.body(8).fault(1, 4, -64, 0);
        b.body(8).push(127).fault(1, 4, 9, 0);
        b.body(8).right(0, 0).right(4, 5).operands(127, 126).looks(3, 1).right(5, 0).looks(3, 1);
    }

    private static void ends() {
        Bench b = bench();
        b.body(1).push(125).right(11, 0);
        due.is("state()", b.checker.state(), 2);
        b.body(1).push(124).fault(1, 11, 0, 0);
        b.body(1).fault(1, 11, 0, 0);
        b.body(1).push(125, 125).fault(3, 11, 0, 0);
        b.body(6).push(126, 127).right(11, 0);
        b.body(6).push(127, 126).fault(1, 11, 0, 0);
        b.body(0).push(127).right(2, -64).right(11, 0).looks(0, 1).right(26, 0).right(11, 0);
        b.body(0).push(127).right(2, -1).fault(1, 11, 0, 0);
    }

    private static void branches() {
        Bench b = bench();
        b.body(1).right(2, -1).right(2, -2).push(125).right(12, 2).looks(3, 0).operands();
        b.right(11, 0).operands(126).looks(3, 1);
        b.body(1).right(2, -1).right(2, -2).push(127).right(12, 1).right(11, 0).operands(126);
        b.body(1).right(2, -1).right(2, -2).push(126).fault(1, 12, 1, 0);
        b.body(1).push(124, 125).right(12, 0).operands().right(11, 0);
        b.body(8).right(2, 0).push(127).right(13, 0).operands().looks(3, 1);
        b.body(8).right(2, -2).push(126, 127).right(13, 0).operands(126).looks(3, 1);
        b.body(8).right(2, -2).push(126).fault(1, 13, 0, 0);
        b.body(8).right(2, -2).push(125, 127).fault(1, 13, 0, 0);
        b.body(8).right(2, -2).right(0, 0).right(13, 0).operands(126);
        b.body(8).right(2, -2).right(0, 0).right(27, 0).push(127).right(13, 0).operands(126);
        b.body(6).right(2, -64).right(0, 0).push(127).right(12, 1).operands();
    }

    private static void branchesByRow() {
        Bench b = bench();
        b.right(2, -2).right(2, -2).push(126, 127).labels(0, 1, 0).right(14, 1).looks(3, 0).operands();
        b.body(8).push(127).right(14, 0).looks(3, 0).operands();
        b.body(8).push(126).fault(1, 14, 0, 0);
        b.body(8).fault(1, 14, 0, 0);
        b.body(8).right(2, -2).right(2, -2).push(125, 127).labels(0).fault(1, 14, 1, 0);
        b.body(8).right(2, -2).right(2, -1).push(126, 127).labels(0).fault(1, 14, 1, 0);
        b.body(8).right(2, -2).right(2, -1).push(127, 127).labels(0).fault(1, 14, 1, 0);
        b.body(8).right(2, -2).right(2, -1).right(0, 0).labels(0, 1, 0).right(14, 1);
        b.body(8).right(2, -2).right(2, -1).right(0, 0).right(27, 0).push(127).labels(0, 1).right(14, 0);
        b.body(8).right(2, -2).right(2, -1).right(0, 0).push(126, 127).labels(0).fault(1, 14, 1, 0);
        b = bench();
        b.push(127, 126).right(3, 1).push(127).labels(0, 0).right(14, 0).operands().looks(3, 0);
        int[] twelve = new int[12];
        java.util.Arrays.fill(twelve, 127);
        b.body(8).push(124).push(twelve).right(3, 7).right(2, 7).push(127).labels(0, 1).right(14, 1).operands(124);
        b.looks(3, 0).right(0, 0).labels(0, 1, 1).right(14, 0).operands(124);
    }

    private static void returns() {
        Bench b = bench();
        b.body(1).push(111).right(2, -64).push(125).right(15, 0).looks(3, 0).operands(111);
        b.body(1).push(125).right(2, -64).fault(1, 15, 0, 0);
        b.body(1).push(124).fault(1, 15, 0, 0);
        b.body(1).push(111, 111, 125).right(15, 0).operands().right(11, 0);
        b.body(6).push(126, 127).right(15, 0).right(15, 0).looks(3, 0);
        b.body(0).push(127).right(2, -1).right(2, -2).right(15, 0).operands(127).looks(1, 3);
    }

    private static void constants() {
        Bench b = bench();
        b.constant(112, 0).right(210, 2).right(11, 0);
        b.constant(111, 0).right(208, 111).right(11, 0);
        b.constant(127, 1).right(35, 0).right(11, 0);
        b.constant(127, 1).push(127, 127).fault(3, 11, 0, 0);
        b.constant(127, 1).push(127, 126, 125, 124).operands(127, 126, 125, 124);
        b.constant(127, 6).right(35, 5).operands(111);
    }
}
