import java.util.List;
import java.util.function.Consumer;

/** Promise 10 and the last lines of 'Terms': FAULTS 12 to 15, the order of faults, and what a fault leaves. */
public final class BoundsOfFaultsTest {
    private static final Due due = new Due("BoundsOfFaultsTest");
    private static final Consumer<Probe> BODY = p -> p.type().begin(0);
    /** Types 0 nothing, 1 w32 > w32; function 0; tables of 112 and 111; two globals; an element; data; no memory. */
    private static final Consumer<Probe> THINGS = p -> p.type().typeOf(127, 0, 127).add(0, 1, 0).add(1, 112, 0)
            .add(1, 111, 0)
            .add(3, 127, 0).add(3, 127, 1).add(4, 111, 0).add(5, 0, 0);
    private static final int[] BEYOND = {256, 65536, Probe.MAX, Probe.MIN, Probe.MIN + 1, -2, -1};

    public static void main(String[] args) {
        rightOrFault();
        codeIsNoMore();
        withoutSign();
        noCode();

        missing();
        missingBlockTypes();
        missingLabels();
        missingAheadOfAll();

        noInstruction();
        noBlockOrValueType();
        malformedAheadOfMissing();

        allowedInConstant();
        globalsInConstant();
        notInConstantAhead();

        sixtyBlocks();
        twoHundredOperands();
        operandsThatAnInstructionGives();
        whenItWouldCome();

        orderOfTheInstruction();
        aheadOfWhatIsTaken();
        due.finish();
    }

    private static Probe probe(String sentence) {
        return new Probe(due, sentence);
    }

    /** Code that comes to each fault, its number the place in the row; 0 is code that is right. */
    private static List<Consumer<Probe>> faults() {
        Consumer<Probe> body = THINGS.andThen(p -> p.begin(0));
        return List.of(
                body.andThen(p -> p.step(1)),
                body.andThen(p -> p.step(26)),
                body.andThen(p -> p.step(5)),
                body.andThen(p -> p.step(65).step(11)),
                body.andThen(p -> p.step(65).step(4, -1).step(65).step(11)),
                body.andThen(p -> p.step(2, -1).step(65).label(1).step(14, 0)),
                body.andThen(p -> p.step(17, 0, 1)),
                body.andThen(p -> p.step(65).step(209)),
                body.andThen(p -> p.step(36, 0)),
                body.andThen(p -> p.step(63)),
                body.andThen(p -> p.add(2, 0, 0).step(40, 3)),
                body.andThen(p -> p.step(210, 0)),
                body.andThen(p -> p.step(32, 0)),
                body.andThen(p -> p.step(6)),
                THINGS.andThen(p -> p.constant(127, 0).step(1)),
                body.andThen(p -> p.times(59, q -> q.step(3, -64)).step(3, -64)));
    }

    // Promise 10

    private static void rightOrFault() {
        List<Consumer<Probe>> faults = faults();
        for (int fault = 0; fault <= 15; fault++) {
            probe("An instruction: 0 when it is right; otherwise its FAULT").after(faults.get(fault)).is(fault)
                    .state().is(fault == 0 ? 1 : 0);
        }
    }

    private static void codeIsNoMore() {
        String sentence = "otherwise its FAULT: the code is no more";
        List<Consumer<Probe>> faults = faults();
        for (int fault = 1; fault <= 15; fault++) {
            // 10 has made a memory on its way.
            Consumer<Probe> before = fault == 10 ? THINGS.andThen(p -> p.add(2, 0, 0)) : THINGS;
            Twins.alike(due, sentence, before, faults.get(fault));
            probe(sentence).after(faults.get(fault)).state().is(0).look(0).is(-1).look(1).is(-1).look(5).is(-1)
                    .operand(0).is(-1)
                    .label(0).is(-1).local(127, 1).is(false).step(1).is(-1).step(11).is(-1).part(false, 127).is(2)
                    .state().is(0);
            // Other code begins as if nothing had been.
            Twins.alike(due, sentence, before.andThen(p -> p.begin(1)), faults.get(fault).andThen(p -> p.begin(1)));
        }
        // A fault in an inner block ends all of it.
        probe(sentence).after(BODY).right(2, -64).right(2, -64).fault(1, 26).step(11).is(-1).look(1).is(-1);
    }

    private static void withoutSign() {
        String sentence = "x and y are 32 bits without sign where they are numbers of things, 2's power or labels";
        int[] numbers = {12, 13, 14, 16, 32, 33, 34, 35, 36, 37, 38, 210, 264, 265, 268, 269, 270, 271, 272, 273, 17};
        for (int x : new int[] {-1, -2, Probe.MIN, Probe.MIN + 1}) {
            for (int n : numbers) {
                probe(sentence).after(THINGS).begin(1).right(0).fault(12, n, x);
            }
            for (int n : new int[] {17, 268, 270}) {
                probe(sentence).after(THINGS).begin(1).right(0).fault(12, n, 0, x);
            }
            for (int n = 40; n <= 62; n++) {
                probe(sentence).after(THINGS).add(2, 0, 0).begin(1).right(0).fault(10, n, x);
            }
            probe(sentence).after(THINGS).begin(1).right(0).label(x).is(1).fault(12, 14, 0);
            // Local 2 ^ 32 - 1 and its like are there when there are so many.
            probe(sentence).after(BODY).local(126, -1).is(true).local(126, 1).is(true).right(32, x).holds(126);
            probe(sentence).after(BODY).local(126, -1).is(true).local(126, 1).is(true).push(126).right(34, x)
                    .right(33, x).holds();
        }
        // Where they are no such numbers they are not looked at.
        for (int x : new int[] {-1, Probe.MIN, Probe.MAX, 99}) {
            Probe p = probe(sentence).after(THINGS).add(2, 0, 0).begin(0).right(0);
            for (int n : new int[] {0, 1, 15, 26, 27, 63, 64, 65, 66, 67, 68, 69, 106, 196, 256, 263, 266, 267}) {
                p.right(0).right(n, x, x);
            }
            p.begin(0).right(0).right(209, x, x).begin(0).right(0).right(4, -64, x).right(0).right(5, x, x).right(0)
                    .right(11, x, x);
        }
    }

    private static void noCode() {
        String sentence = "step: -1 when there is no code";
        Consumer<Probe> ended = THINGS.andThen(p -> p.begin(0).step(11));
        Consumer<Probe> constant = THINGS.andThen(p -> p.constant(127, 0).step(65).step(11));
        Consumer<Probe> faulty = THINGS.andThen(p -> p.begin(0).step(26));
        Consumer<Probe> none = p -> { };
        for (Consumer<Probe> past : List.of(none, THINGS, ended, constant, faulty)) {
            for (int n : new int[] {0, 1, 5, 6, 11, 14, 65, -1, 274, Probe.MIN}) {
                Twins.refused(due, sentence, -1, past, p -> p.step(n));
            }
        }
        // An instruction that was refused has not come for the body that begins.
        probe(sentence).type().step(1).is(-1).begin(0).local(127, 1).is(true).look(5).is(1);
        probe(sentence).after(ended).step(0).is(-1).begin(0).look(3).is(1).local(127, 1).is(true);
    }

    // FAULT 12

    private static void missing() {
        String sentence = "What there is not: FAULT 12";
        // An instruction that names something, how many there are of it, and what the first and the last answer in a DEAD block.
        int[][] rows = {
            {12, 1, 0}, {13, 1, 0}, {14, 1, 0}, {16, 1, 0}, {17, 2, 0}, {32, 1, 0}, {33, 1, 0}, {34, 1, 0}, {35, 2, 0},
            {37, 2, 0}, {38, 2, 0}, {210, 1, 11}, {264, 1, 9}, {265, 1, 0}, {269, 1, 0}, {271, 2, 0}, {272, 2, 0}, {273, 2, 0}
        };
        for (int[] row : rows) {
            probe(sentence).after(THINGS).begin(1).right(0).step(row[0], 0).is(row[2]);
            probe(sentence).after(THINGS).begin(1).right(0).step(row[0], row[1] - 1).is(row[2]);
            probe(sentence).after(THINGS).begin(1).right(0).fault(12, row[0], row[1]);
            probe(sentence).after(THINGS).begin(1).fault(12, row[0], row[1]);
            for (int x : BEYOND) {
                probe(sentence).after(THINGS).begin(1).right(0).fault(12, row[0], x);
            }
        }
        for (int[] row : new int[][] {{17, 0, 2}, {268, 0, 2}, {270, 0, 2}}) {
            probe(sentence).after(THINGS).begin(1).right(0).fault(12, row[0], row[1], row[2]);
            for (int y : BEYOND) {
                probe(sentence).after(THINGS).begin(1).right(0).fault(12, row[0], row[1], y);
            }
        }
        probe(sentence).after(THINGS).begin(1).right(0).right(36, 1).fault(12, 36, 2);
        probe(sentence).after(THINGS).begin(1).right(0).right(268, 0, 1).fault(12, 268, 1, 1);
        probe(sentence).after(THINGS).begin(1).right(0).right(270, 1, 1).fault(12, 270, 2, 1);
        // What comes while the code is there can be named from then on.
        probe(sentence).after(THINGS).begin(1).right(0).add(5, 0, 0).is(1).right(265, 1).type().is(2).right(2, 2)
                .right(0)
                .add(0, 2, 0).is(1).right(16, 1);
    }

    private static void missingBlockTypes() {
        String sentence = "What there is not (a BLOCK TYPE's number, too): FAULT 12";
        for (int opener = 2; opener <= 4; opener++) {
            probe(sentence).after(THINGS).begin(0).right(0).right(opener, 1).right(0).fault(12, opener, 2);
            probe(sentence).after(THINGS).begin(0).fault(12, opener, 2);
            probe(sentence).after(THINGS).begin(0).fault(12, opener, 40);
            probe(sentence).after(THINGS).begin(0).fault(12, opener, 127);
            probe(sentence).after(THINGS).begin(0).fault(12, opener, Probe.MAX);
        }
    }

    private static void missingLabels() {
        String sentence = "What there is not (x, 14's row: a label): FAULT 12";
        Consumer<Probe> blocks = BODY.andThen(p -> p.step(2, -64).step(3, -64).step(0));
        for (int n = 12; n <= 14; n++) {
            probe(sentence).after(blocks).right(n, 0).right(n, 2).fault(12, n, 3);
        }
        for (int wrong : new int[] {3, 4, 60, Probe.MAX, -1, Probe.MIN}) {
            for (int at = 0; at < 20; at++) {
                int before = at;
                probe(sentence).after(blocks).times(before, p -> p.label(2)).label(wrong)
                        .times(19 - before, p -> p.label(0)).is(20)
                        .fault(12, 14, 1);
            }
        }
        probe(sentence).after(blocks).label(2).label(1).label(0).right(14, 2);
        // The row is looked at by 14 alone.
        probe(sentence).after(blocks).label(3).right(12, 0).label(-1).right(13, 0).label(3).right(1);
    }

    private static void missingAheadOfAll() {
        String sentence = "FAULT 12, ahead of all others but 2";
        Consumer<Probe> body = THINGS.andThen(p -> p.begin(0));
        // 1: nothing is there to be taken.
        for (int n : new int[] {12, 13, 14, 16, 17, 33, 34, 36, 37, 38, 264, 268, 270, 271, 273}) {
            probe(sentence).after(body).fault(12, n, 99);
        }
        probe(sentence).after(body).fault(12, 4, 2);
        // 5: an earlier label of the row is of another size.
        probe(sentence).after(body).right(2, -1).push(127, 127).label(1).label(2).fault(12, 14, 0);
        probe(sentence).after(body).right(2, -1).push(127, 127).label(1).fault(12, 14, 2);
        // 6: the table that is there is of another type.
        probe(sentence).after(body).fault(12, 17, 2, 1);
        probe(sentence).after(body).fault(12, 268, 1, 0);
        probe(sentence).after(body).fault(12, 270, 2, 1);
        probe(sentence).after(body).fault(12, 270, 1, 2);
        // 9: no memory. 15: no room for a block, or an operand.
        probe(sentence).after(body).fault(12, 264, 1);
        probe(sentence).after(body).times(59, p -> p.step(2, -64)).fault(12, 2, 2);
        probe(sentence).after(body).times(200, p -> p.step(65)).fault(12, 35, 2);
        // 2 has no number that could be missing.
        probe(sentence).after(body).fault(2, 5, 99, 99);
    }

    // FAULT 13

    private static void noInstruction() {
        String sentence = "A number that is no instruction: FAULT 13";
        int[] ranges = {0, 5, 11, 17, 26, 28, 32, 38, 40, 196, 208, 210, 256, 273};
        for (int i = 0; i < ranges.length; i += 2) {
            for (int n : new int[] {ranges[i] - 1, ranges[i + 1] + 1}) {
                probe(sentence).after(BODY).right(0).fault(13, n);
                probe(sentence).constant(127, 0).fault(13, n);
            }
        }
        for (int n : new int[] {Probe.MIN, Probe.MAX, -256, 1 + 256 * 256, 1 - 256 * 256, 512, 264 + 256, -5, -65}) {
            probe(sentence).after(BODY).right(0).fault(13, n, 127, 0);
            probe(sentence).after(BODY).times(200, p -> p.step(65)).fault(13, n);
        }
    }

    private static void noBlockOrValueType() {
        String sentence = "a block or value type that is none, 208 with no REFERENCE TYPE: FAULT 13";
        int[] noBlockTypes = {-5, -15, -18, -63, -65, -127, -128, -129, Probe.MIN, Probe.MIN + 64, Probe.MIN + 127};
        for (int opener = 2; opener <= 4; opener++) {
            for (int x : noBlockTypes) {
                probe(sentence).after(BODY).right(0).fault(13, opener, x);
                probe(sentence).after(BODY).fault(13, opener, x);
            }
            for (int x : new int[] {-1, -4, -16, -17, -64, 0}) {
                probe(sentence).after(BODY).right(0).right(opener, x);
            }
        }
        for (int x : Probe.NO_VALUE_TYPES) {
            probe(sentence).after(BODY).right(0).fault(13, 28, x);
            probe(sentence).after(BODY).fault(13, 28, x);
            probe(sentence).after(BODY).fault(13, 208, x);
        }
        for (int x : new int[] {127, 126, 125, 124}) {
            probe(sentence).after(BODY).right(0).right(28, x).fault(13, 208, x);
        }
        probe(sentence).after(BODY).right(208, 112).right(208, 111).right(0).right(28, 112).right(0).right(28, 111);
    }

    private static void malformedAheadOfMissing() {
        String sentence = "FAULT 13, ahead of 12";
        // Ahead of 1 and 15, and in a CONSTANT ahead of 14.
        for (int opener = 2; opener <= 4; opener++) {
            probe(sentence).after(BODY).times(59, p -> p.step(2, -64)).fault(13, opener, -5);
            probe(sentence).constant(127, 0).fault(13, opener, -5);
            probe(sentence).constant(127, 0).fault(14, opener, -64);
            probe(sentence).constant(127, 0).fault(14, opener, 0);
        }
        probe(sentence).after(BODY).times(200, p -> p.step(65)).fault(13, 208, 127);
        probe(sentence).constant(127, 0).fault(13, 28, 0);
        probe(sentence).constant(127, 0).fault(14, 28, 127);
        probe(sentence).constant(127, 0).fault(13, 208, 127);
        probe(sentence).constant(127, 0).fault(13, 6);
        probe(sentence).after(BODY).label(9).fault(13, 18);
    }

    // FAULT 14

    private static void allowedInConstant() {
        String sentence = "In a CONSTANT only 11, 65 .. 68, 208, 210, and 35: FAULT 14 otherwise";
        int[] ranges = {0, 5, 11, 17, 26, 28, 32, 38, 40, 196, 208, 210, 256, 273};
        for (int i = 0; i < ranges.length; i += 2) {
            for (int n = ranges[i]; n <= ranges[i + 1]; n++) {
                boolean allowed = n == 11 || n >= 65 && n <= 68 || n == 208 || n == 210 || n == 35;
                int x = n == 28 ? 127 : n == 208 ? 112 : 0;
                Probe p = probe(sentence).after(THINGS).add(2, 0, 0).declare(0).is(true).constant(127, 1).push(127);
                p.step(n, x).is(allowed ? 0 : 14).state().is(n == 11 ? 2 : allowed ? 1 : 0);
                // The same in a body is none.
                p = probe(sentence).after(THINGS).add(2, 0, 0).declare(0).is(true).begin(1).right(0).step(n, x);
                due.is("step(" + n + ") in a body is FAULT 14", p.answer() == 14, false);
            }
        }
    }

    private static void globalsInConstant() {
        String sentence = "35 of a global that can't change and is one of the first ones that it may see: FAULT 14 otherwise";
        Consumer<Probe> globals = p -> p.add(3, 127, 0).add(3, 126, 1).add(3, 125, 0).add(3, 124, 0);
        for (int many = 0; many <= 5; many++) {
            for (int global = 0; global <= 5; global++) {
                boolean seen = global < many && global < 4 && global != 1;
                probe(sentence).after(globals).constant(127, many).step(35, global).is(seen ? 0 : 14);
            }
            for (int global : BEYOND) {
                probe(sentence).after(globals).constant(127, many).fault(14, 35, global);
            }
        }
        probe(sentence).after(globals).constant(125, 3).right(35, 2).holds(125).right(11).state().is(2);
        probe(sentence).constant(127, 1).fault(14, 35, 0);
        // A body may see all, those that can change, too.
        probe(sentence).after(globals).type().begin(0).right(35, 0).right(35, 1).right(35, 3).fault(12, 35, 4);
    }

    private static void notInConstantAhead() {
        String sentence = "FAULT 14, ahead of all others but 13";
        Consumer<Probe> code = THINGS.andThen(p -> p.constant(127, 2));
        // What there is not (12), nothing to take (1), no block begun by 4 (2), and what is not as it must be (6, 8 to 11).
        for (int n : new int[] {2, 3, 4, 12, 13, 14, 16, 17, 32, 33, 34, 36, 37, 38, 264, 265, 268, 269, 270, 271, 272, 273}) {
            probe(sentence).after(code).fault(14, n, 99, 99);
        }
        probe(sentence).after(code).fault(14, 35, 99);
        probe(sentence).after(code).fault(14, 35, 1);
        probe(sentence).after(code).fault(14, 26);
        probe(sentence).after(code).fault(14, 5);
        probe(sentence).after(code).fault(14, 17, 0, 1);
        probe(sentence).after(code).fault(14, 36, 0);
        probe(sentence).after(code).fault(14, 40, 99);
        probe(sentence).after(code).fault(14, 63);
        probe(sentence).after(code).push(127).fault(14, 209);
        probe(sentence).after(code).label(9).fault(14, 14, 0);
        // 15: at 200 operands.
        probe(sentence).after(code).times(200, p -> p.step(65)).fault(14, 35, 1);
        probe(sentence).after(code).times(200, p -> p.step(65)).fault(15, 35, 0);
        // What may stand in it has its other faults.
        probe(sentence).after(code).fault(12, 210, 1);
        probe(sentence).after(code).fault(11, 210, 0);
        probe(sentence).after(code).fault(1, 11);
        probe(sentence).after(code).push(127, 127).fault(3, 11);
    }

    // FAULT 15

    private static void sixtyBlocks() {
        String sentence = "FAULT 15: a block more than there may be (60 blocks, the outermost one counted)";
        for (int opener = 2; opener <= 4; opener++) {
            int o = opener;
            Consumer<Probe> open = p -> p.times(o == 4 ? 1 : 0, q -> q.step(65)).step(o, -64);
            probe(sentence).after(BODY).times(58, open).look(1).is(59).after(open).is(0).look(1).is(60).after(open)
                    .is(15).state().is(0);
            probe(sentence).after(BODY).times(59, open).right(11).look(1).is(59).after(open).is(0).look(1).is(60)
                    .after(open).is(15);
            // In a DEAD block as well.
            probe(sentence).after(BODY).right(0).times(59, open).is(0).right(0).look(1).is(60).after(open).is(15);
        }
        probe(sentence).after(BODY).times(58, p -> p.step(2, -64)).push(127).right(4, -64).right(5).look(1).is(60)
                .right(11);
    }

    private static void twoHundredOperands() {
        String sentence = "FAULT 15: an operand more than there may be (200 operands)";
        for (int n : new int[] {65, 66, 67, 68, 208, 32, 35, 63, 210, 272}) {
            int x = n == 208 ? 112 : 0;
            Consumer<Probe> things = THINGS.andThen(p -> p.add(2, 0, 0).declare(0).begin(1));
            probe(sentence).after(things).times(199, p -> p.step(65)).is(0).look(0).is(199).right(n, x).look(0)
                    .is(200).fault(15, n, x);
        }
        probe(sentence).after(BODY).times(200, p -> p.step(65)).right(26).push(126).operand(0).is(126).fault(15, 65);
        // Those below the height count, a DEAD block's too.
        probe(sentence).after(BODY).times(200, p -> p.step(65)).right(2, -64).fault(15, 65);
        probe(sentence).after(BODY).times(200, p -> p.step(65)).right(2, -64).right(0).fault(15, 65);
        probe(sentence).after(BODY).right(0).times(200, p -> p.step(65)).is(0).fault(15, 65);
        probe(sentence).constant(127, 0).times(200, p -> p.step(65)).is(0).look(0).is(200).fault(15, 65);
    }

    private static void operandsThatAnInstructionGives() {
        String sentence = "FAULT 15: an operand more, when it would come";
        Consumer<Probe> types = p -> p.typeOf(0, 127, 127).typeOf(127, 126, 0, 125).add(0, 0, 0).add(0, 1, 0)
                .add(1, 112, 0).begin(1);
        // 16 gives two.
        probe(sentence).after(types).times(198, p -> p.step(65)).right(16, 0).look(0).is(200);
        probe(sentence).after(types).times(199, p -> p.step(65)).fault(15, 16, 0);
        // 17 takes one ahead of that.
        probe(sentence).after(types).times(199, p -> p.step(65)).right(17, 0, 0).look(0).is(200);
        probe(sentence).after(types).times(200, p -> p.step(65)).fault(15, 17, 0, 0);
        // A block in a DEAD one has its parameters, which were not there.
        for (int room = 0; room <= 3; room++) {
            int r = room;
            Consumer<Probe> dead = types.andThen(p -> p.times(200 - r, q -> q.step(65)).step(2, -64).step(0));
            for (int opener = 2; opener <= 4; opener++) {
                probe(sentence).after(dead).step(opener, 1).is(r >= 2 ? 0 : 15).look(0).is(r >= 2 ? 202 - r : -1);
            }
            probe(sentence).after(dead).step(16, 0).is(r >= 2 ? 0 : 15);
            probe(sentence).after(dead).step(16, 1).is(r >= 1 ? 0 : 15);
            for (int n : new int[] {27, 34, 69, 106, 209}) {
                probe(sentence).after(dead).step(n).is(r >= 1 ? 0 : 15);
            }
            for (int n : new int[] {12, 14, 15, 26, 33, 0, 1, 11}) {
                probe(sentence).after(dead).right(n).look(0).is(200 - r);
            }
        }
        // 13 gives its label, 11 the results, 5 the parameters of a DEAD block.
        for (int room = 0; room <= 2; room++) {
            int r = room;
            Consumer<Probe> block = types.andThen(p -> p.times(200 - r, q -> q.step(65)).step(2, -2).step(0));
            probe(sentence).after(block).step(13, 0).is(r >= 1 ? 0 : 15).look(0).is(r >= 1 ? 201 - r : -1);
            probe(sentence).after(block).label(0).step(14, 0).is(r >= 1 ? 0 : 15);
            probe(sentence).after(block).step(11).is(r >= 1 ? 0 : 15).look(0).is(r >= 1 ? 201 - r : -1);
        }
    }

    private static void whenItWouldCome() {
        String sentence = "FAULT 15, when it would come";
        Consumer<Probe> most = p -> p.typeOf(127).begin(0).times(59, q -> q.step(2, -64));
        // A block comes behind what is taken for it.
        probe(sentence).after(most).fault(1, 2, 0);
        probe(sentence).after(most).fault(1, 4, -64);
        probe(sentence).after(most).push(127).fault(1, 4, 0);
        probe(sentence).after(most).push(127).fault(15, 2, 0);
        probe(sentence).after(most).push(127, 127).fault(15, 4, 0);
        probe(sentence).after(most).push(127).fault(15, 4, -64);
        // An operand comes behind what is taken for it, so there is room for what replaces another.
        Consumer<Probe> full = BODY.andThen(p -> p.times(200, q -> q.step(65)));
        probe(sentence).after(full).right(69).right(106).look(0).is(199).right(172).look(0).is(199).operand(0).is(126);
        probe(sentence).after(full).fault(1, 80);
        probe(sentence).after(full).fault(7, 209);
        probe(sentence).after(full).right(28, 127).look(0).is(198);
        // The block comes ahead of its parameters.
        Consumer<Probe> both = p -> p.typeOf(127).begin(0).times(200, q -> q.step(65)).times(58, q -> q.step(2, -64))
                .step(0);
        probe(sentence).after(both).look(1).is(59).fault(15, 2, 0);
        probe(sentence).after(both).look(1).is(59).right(2, -64).right(0).fault(15, 2, 0);
    }

    // The order of faults

    private static void orderOfTheInstruction() {
        String sentence = "Faults are looked for in the order in which the instruction says";
        // 5: 2, 1, 3. 11: 1, 3, 4.
        Consumer<Probe> inIf = BODY.andThen(p -> p.step(65).step(4, -1));
        probe(sentence).after(BODY).right(2, -1).push(126).fault(2, 5);
        probe(sentence).after(inIf).push(127, 126).fault(1, 5);
        probe(sentence).after(inIf).push(126, 127).fault(3, 5);
        probe(sentence).after(inIf).push(127, 126).fault(1, 11);
        probe(sentence).after(inIf).push(126, 127).fault(3, 11);
        probe(sentence).after(inIf).push(127).fault(4, 11);
        // 27: 1 for its w32 and for two that are there, 7, 1 for two that are not alike.
        probe(sentence).after(BODY).push(112, 111, 126).fault(1, 27);
        probe(sentence).after(BODY).push(112, 127).fault(1, 27);
        probe(sentence).after(BODY).push(112, 111, 127).fault(7, 27);
        probe(sentence).after(BODY).push(126, 111, 127).fault(7, 27);
        probe(sentence).after(BODY).push(126, 125, 127).fault(1, 27);
        // 14: 1 for its w32, then label by label 5, 1, 15, then 1 for x.
        Consumer<Probe> block = BODY.andThen(p -> p.step(2, -1));
        probe(sentence).after(block).push(127, 126).label(1).fault(1, 14, 0);
        probe(sentence).after(block).push(126, 127).label(1).fault(5, 14, 0);
        probe(sentence).after(block).push(126, 127).label(0).label(1).fault(1, 14, 0);
        probe(sentence).after(block).push(126, 127).fault(1, 14, 0);
        // 209: 1 when there is none, then 7, then 15.
        probe(sentence).after(BODY).fault(1, 209);
        probe(sentence).after(BODY).right(0).push(127).fault(7, 209);
    }

    private static void aheadOfWhatIsTaken() {
        String sentence = "but 6, 8 to 11 ahead of what is taken";
        Consumer<Probe> body = THINGS.andThen(p -> p.begin(0));
        Consumer<Probe> wrong = body.andThen(p -> p.step(208, 111));
        for (Consumer<Probe> code : List.of(body, wrong, body.andThen(p -> p.step(0)))) {
            probe(sentence).after(code).fault(6, 17, 0, 1);
            probe(sentence).after(code).fault(6, 17, 1, 1);
            probe(sentence).after(code).fault(6, 268, 0, 0);
            probe(sentence).after(code).fault(6, 270, 0, 1);
            probe(sentence).after(code).fault(8, 36, 0);
            for (int n : new int[] {40, 53, 54, 62, 63, 64, 264, 266, 267}) {
                probe(sentence).after(code).fault(9, n, 0);
            }
            // 9 is told ahead of 10.
            probe(sentence).after(code).fault(9, 40, 3);
            probe(sentence).after(code).add(2, 0, 0).is(0).fault(10, 40, 3);
            probe(sentence).after(code).add(2, 0, 0).is(0).fault(10, 62, 3);
            probe(sentence).after(code).fault(11, 210, 0);
        }
        // And ahead of an operand too many.
        Consumer<Probe> full = body.andThen(p -> p.times(200, q -> q.step(65)));
        probe(sentence).after(full).fault(9, 63);
        probe(sentence).after(full).fault(11, 210, 0);
        // The others are told behind what is taken.
        probe(sentence).after(THINGS).begin(1).push(127, 111).fault(1, 11);
        probe(sentence).after(body).push(111, 111, 126).fault(1, 27);
    }
}
