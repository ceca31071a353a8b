import java.util.List;
import java.util.function.Consumer;

/** The instructions, sentence by sentence of 'Terms': what each asks for, just met and just missed. */
public final class BoundsOfInstructionsTest {
    private static final Due due = new Due("BoundsOfInstructionsTest");
    private static final int[] VALUES = Probe.VALUE_TYPES;
    private static final Consumer<Probe> BODY = p -> p.type().begin(0);

    public static void main(String[] args) {
        dead();
        nothing();
        blockBegins();
        ifTakesOneMore();
        elseInIfAlone();
        elseTakesResults();
        elseIsLiveAgain();
        endTakesResults();
        endOfIf();
        endGivesResults();

        branch();
        branchIf();
        rowCounted();
        rowTakenAndGiven();
        rowOneBehindTheOther();
        rowEmptyAndFull();
        bodysResults();
        callOfFunction();
        callByTable();

        drop();
        chooseOperands();
        chooseFaults();
        chooseOfType();
        locals();
        globals();
        tables();

        memoryIsThere();
        powerOfTwo();
        movedTypes();
        memorySize();
        constantsAndNumbers();

        references();
        declaredFunction();
        dataAndMemory();
        elementsAndTables();
        tableSizes();
        due.finish();
    }

    private static Probe probe(String sentence) {
        return new Probe(due, sentence);
    }

    private static void dead() {
        String sentence = "0: the block becomes DEAD";
        probe(sentence).after(BODY).right(0).look(3).is(0).right(0).look(3).is(0).right(11).state().is(2);
        probe(sentence).after(BODY).push(127).right(2, -64).push(126).right(0).look(3).is(0).holds(127).right(11)
                .look(3).is(1);
        probe(sentence).after(BODY).right(0, -1, -1).look(3).is(0);
    }

    private static void nothing() {
        String sentence = "1: nothing";
        Probe x = probe(sentence).after(BODY).right(1).holds().push(127).right(1, -1, -1).holds(127).look(3).is(1)
                .look(1).is(1);
        x.right(0).right(1).holds().look(3).is(0);
        probe(sentence).after(BODY).times(200, p -> p.step(65)).right(1).look(0).is(200);
    }

    private static void blockBegins() {
        String sentence = "the parameters are taken; a block begins (LIVE), the parameters are given";
        Consumer<Probe> body = p -> p.typeOf(127, 126, 0, 125).begin(0);
        for (int opener = 2; opener <= 3; opener++) {
            Probe x = probe(sentence).after(body).push(124, 127, 126).right(opener, 0).holds(124, 127, 126).look(3)
                    .is(1);
            x.look(1).is(2).look(2).is(1).look(4).is(opener).right(26).right(26).fault(1, 26);
            probe(sentence).after(body).push(127).fault(1, opener, 0);
            probe(sentence).after(body).push(126).fault(1, opener, 0);
            probe(sentence).after(body).push(126, 127).fault(1, opener, 0);
            probe(sentence).after(body).fault(1, opener, 0);
            probe(sentence).after(body).push(127, 126).right(2, -64).fault(1, opener, 0);
            probe(sentence).after(body).push(127).right(opener, -1).holds(127).look(2).is(1);
            // In a DEAD block: LIVE, and what was UNKNOWN is known within.
            probe(sentence).after(body).right(0).right(27).right(27).right(opener, 0).look(3).is(1).holds(127, 126)
                    .look(2).is(0);
            probe(sentence).after(body).right(0).push(126).right(opener, 0).look(3).is(1).holds(127, 126);
            probe(sentence).after(body).right(0).push(127).fault(1, opener, 0);
        }
    }

    private static void ifTakesOneMore() {
        String sentence = "4 takes w32; the parameters are taken";
        Consumer<Probe> body = p -> p.typeOf(126, 0, 126).begin(0);
        probe(sentence).after(body).push(127).right(4, -64).holds().look(4).is(4).look(2).is(0).look(3).is(1);
        probe(sentence).after(body).push(124, 126, 127).right(4, 0).holds(124, 126).look(2).is(1);
        probe(sentence).after(body).push(127, 126).fault(1, 4, 0);
        probe(sentence).after(body).push(127).fault(1, 4, 0);
        probe(sentence).after(body).push(126).fault(1, 4, 0);
        probe(sentence).after(body).fault(1, 4, -64);
        for (int t : VALUES) {
            probe(sentence).after(body).push(t).step(4, -64).is(t == 127 ? 0 : 1);
        }
        probe(sentence).after(body).right(0).right(4, 0).holds(126).look(3).is(1);
        probe(sentence).after(body).right(0).push(127).right(4, 0).holds(126);
        probe(sentence).after(body).right(0).push(126).fault(1, 4, 0);
    }

    private static void elseInIfAlone() {
        String sentence = "5: only directly in a block begun by 4 (FAULT 2 otherwise)";
        Consumer<Probe> inIf = BODY.andThen(p -> p.step(65).step(4, -64));
        probe(sentence).after(inIf).right(5).look(4).is(5);
        probe(sentence).after(BODY).fault(2, 5);
        probe(sentence).after(BODY).right(0).fault(2, 5);
        for (int opener = 2; opener <= 3; opener++) {
            probe(sentence).after(BODY).right(opener, -64).fault(2, 5);
            probe(sentence).after(inIf).right(opener, -64).fault(2, 5);
            probe(sentence).after(inIf).right(opener, -64).right(11).right(5).look(4).is(5);
        }
        probe(sentence).after(inIf).right(5).fault(2, 5);
        probe(sentence).after(inIf).right(11).fault(2, 5);
        probe(sentence).after(inIf).push(127).right(4, -64).right(5).right(11).right(5).right(11).look(1).is(1);
        // Ahead of what is taken and of what is left.
        probe(sentence).after(BODY).right(2, -1).fault(2, 5);
        probe(sentence).after(BODY).right(2, -64).push(127).fault(2, 5);
        probe(sentence).after(BODY).push(127).right(4, -1).push(127).right(5).fault(2, 5);
    }

    private static void elseTakesResults() {
        String sentence = "its results are taken, FAULT 3 when more are left above its height";
        Consumer<Probe> inIf = p -> p.typeOf(127, 0, 126, 125).begin(0).step(68).step(65).step(65).step(4, 0);
        Consumer<Probe> without = inIf.andThen(p -> p.step(26));
        probe(sentence).after(without).push(126, 125).right(5).holds(124, 127);
        probe(sentence).after(inIf).push(126, 125).fault(3, 5);
        probe(sentence).after(without).push(111, 126, 125).fault(3, 5);
        probe(sentence).after(without).push(126).fault(1, 5);
        probe(sentence).after(without).push(125).fault(1, 5);
        probe(sentence).after(without).push(125, 126).fault(1, 5);
        probe(sentence).after(without).fault(1, 5);
        probe(sentence).after(inIf).right(0).right(5).holds(124, 127);
        probe(sentence).after(inIf).right(0).push(125).right(5).holds(124, 127);
        probe(sentence).after(inIf).right(0).push(126, 125).right(5).holds(124, 127);
        probe(sentence).after(inIf).right(0).push(127, 126, 125).fault(3, 5);
        probe(sentence).after(inIf).right(0).push(126).fault(1, 5);
        Consumer<Probe> empty = BODY.andThen(p -> p.step(65).step(65).step(4, -64));
        probe(sentence).after(empty).right(5).holds(127);
        probe(sentence).after(empty).push(127).fault(3, 5);
    }

    private static void elseIsLiveAgain() {
        String sentence = "it is LIVE, the parameters are given, and it counts as begun by 5";
        Consumer<Probe> inIf = p -> p.typeOf(127, 111).begin(0).step(68).step(65).step(208, 111).step(65).step(4, 0);
        Probe x = probe(sentence).after(inIf).right(0).look(3).is(0).look(4).is(4).right(5).look(3).is(1).look(4).is(5);
        x.holds(124, 127, 111).look(2).is(1).look(1).is(2).right(26).right(26).fault(1, 26);
        probe(sentence).after(inIf).right(26).right(26).look(3).is(1).right(5).look(3).is(1).holds(124, 127, 111);
        probe(sentence).typeOf(127, 0, 126).begin(0).right(0).right(4, 0).right(0).right(5).right(0).right(11).look(0)
                .is(1);
    }

    private static void endTakesResults() {
        String sentence = "11: the results are taken, FAULT 3 when more are left";
        Consumer<Probe> block = p -> p.typeOf(0, 126, 125).begin(0).step(68).step(2, 0);
        probe(sentence).after(block).push(126, 125).right(11).holds(124, 126, 125);
        probe(sentence).after(block).push(127, 126, 125).fault(3, 11);
        probe(sentence).after(block).push(126, 125, 127).fault(1, 11);
        probe(sentence).after(block).push(125).fault(1, 11);
        probe(sentence).after(block).fault(1, 11);
        probe(sentence).after(block).right(0).right(11).holds(124, 126, 125);
        probe(sentence).after(block).right(0).push(125).right(11).holds(124, 126, 125);
        probe(sentence).after(block).right(0).push(126, 125).right(11).holds(124, 126, 125);
        probe(sentence).after(block).right(0).push(124, 126, 125).fault(3, 11);
        probe(sentence).after(block).right(0).right(27).push(126, 125).fault(3, 11);
        probe(sentence).after(BODY).push(127).fault(3, 11);
        probe(sentence).after(BODY).right(11).state().is(2);
        probe(sentence).after(BODY).right(0).right(27).fault(3, 11);
        probe(sentence).constant(127, 0).push(127, 127).fault(3, 11);
        int[] twelve = new int[12];
        java.util.Arrays.fill(twelve, 127);
        Consumer<Probe> most = p -> p.type().times(12, q -> q.part(true, 127)).begin(0);
        probe(sentence).after(most).push(twelve).right(11).state().is(2);
        probe(sentence).after(most).push(twelve).push(127).fault(3, 11);
        probe(sentence).after(most).push(java.util.Arrays.copyOf(twelve, 11)).fault(1, 11);
    }

    private static void endOfIf() {
        String sentence = "one begun by 4 must have like parameters and results (FAULT 4)";
        int[][] alike = {{0}, {127, 0, 127}, {127, 126, 0, 127, 126}, {111, 112, 125, 0, 111, 112, 125}};
        int[][] unlike = {
            {127, 0}, {0, 127}, {127, 0, 126}, {112, 0, 111}, {127, 126, 0, 127}, {127, 0, 127, 126}, {127, 126, 0, 126, 127},
            {127, 126, 0, 125, 126}, {127, 126, 0, 127, 125}
        };
        for (int[] type : alike) {
            probe(sentence).typeOf(type).begin(0).right(0).right(4, 0).right(11).look(1).is(1);
            probe(sentence).typeOf(type).begin(0).right(0).right(4, 0).right(0).right(11).look(1).is(1);
        }
        for (int[] type : unlike) {
            for (int opener = 2; opener <= 4; opener++) {
                probe(sentence).typeOf(type).begin(0).right(0).right(opener, 0).right(0).step(11)
                        .is(opener == 4 ? 4 : 0);
            }
            probe(sentence).typeOf(type).begin(0).right(0).right(4, 0).right(0).right(5).right(0).right(11).look(1)
                    .is(1);
        }
        probe(sentence).after(BODY).push(127).right(4, -64).right(11).look(1).is(1);
        for (int t : VALUES) {
            probe(sentence).after(BODY).push(127).right(4, t - 128).push(t).fault(4, 11);
            probe(sentence).after(BODY).push(127).right(4, t - 128).push(t).right(5).push(t).right(11).holds(t);
        }
        // FAULTS 1 and 3 come first.
        probe(sentence).after(BODY).push(127).right(4, -1).fault(1, 11);
        probe(sentence).after(BODY).push(127).right(4, -1).push(127, 127).fault(3, 11);
        int[] twelve = new int[25];
        java.util.Arrays.fill(twelve, 127);
        twelve[12] = 0;
        probe(sentence).typeOf(twelve).begin(0).right(0).right(4, 0).right(11).look(0).is(12);
        for (int differs : new int[] {0, 11, 13, 24}) {
            int[] other = twelve.clone();
            other[differs] = 126;
            probe(sentence).typeOf(other).begin(0).right(0).right(4, 0).right(0).fault(4, 11);
        }
    }

    private static void endGivesResults() {
        String sentence = "the block ends, and its results are given to the one around it; the outermost one's end ends the code";
        Probe x = probe(sentence).typeOf(127, 0, 126, 125).begin(0).push(124, 127).right(2, 0).right(26)
                .push(126, 125).right(11);
        x.holds(124, 126, 125).look(1).is(1).look(2).is(0).look(4).is(-1).look(3).is(1).state().is(1);
        x.begin(0).right(0).right(3, -2).right(0).right(11).holds(126).look(3).is(0).right(26).right(26).holds();
        // What was UNKNOWN in the block is known around it.
        x.begin(0).right(2, -2).right(0).right(27).right(11).holds(126);
        probe(sentence).after(BODY).right(2, -64).right(2, -64).right(11).right(11).state().is(1).right(11).state()
                .is(2);
        probe(sentence).typeOf(0, 127).begin(0).push(127).right(11).state().is(2).look(0).is(-1).look(1).is(-1)
                .step(11).is(-1);
    }

    private static void branch() {
        String sentence = "12 x: label x is taken; DEAD";
        Consumer<Probe> block = p -> p.typeOf(0, 127, 126).begin(0).step(68).step(2, 0);
        probe(sentence).after(block).push(127, 126).right(12, 0).look(3).is(0).holds(124);
        probe(sentence).after(block).push(125, 127, 126).right(12, 0).look(3).is(0).holds(124);
        probe(sentence).after(block).push(126).fault(1, 12, 0);
        probe(sentence).after(block).push(126, 127).fault(1, 12, 0);
        probe(sentence).after(block).fault(1, 12, 0);
        probe(sentence).after(block).right(0).push(126).right(12, 0).holds(124);
        probe(sentence).after(block).right(0).push(127).fault(1, 12, 0);
        // The innermost block is DEAD, not the one of the label; and only what is above its height is taken.
        probe(sentence).after(block).push(127, 126).right(2, -64).fault(1, 12, 1);
        probe(sentence).after(block).right(2, -64).push(127, 126).right(12, 1).look(3).is(0).right(11).look(3).is(1);
        probe(sentence).after(BODY).right(12, 0).look(3).is(0).state().is(1).look(1).is(1);
    }

    private static void branchIf() {
        String sentence = "13 x: w32, then label x is taken, and given";
        Consumer<Probe> block = p -> p.typeOf(0, 127, 126).begin(0).step(68).step(2, 0);
        probe(sentence).after(block).push(127, 126, 127).right(13, 0).look(3).is(1).holds(124, 127, 126);
        probe(sentence).after(block).push(125, 127, 126, 127).right(13, 0).holds(124, 125, 127, 126);
        probe(sentence).after(block).push(127, 126).fault(1, 13, 0);
        probe(sentence).after(block).push(126, 127).fault(1, 13, 0);
        probe(sentence).after(block).push(127, 126, 126).fault(1, 13, 0);
        probe(sentence).after(block).push(127).fault(1, 13, 0);
        probe(sentence).after(block).fault(1, 13, 0);
        // What was UNKNOWN, or not there in a DEAD block, is the label's types behind it.
        probe(sentence).after(block).right(0).right(13, 0).look(3).is(0).holds(124, 127, 126);
        probe(sentence).after(block).right(0).right(27).push(127).right(13, 0).holds(124, 127, 126);
        probe(sentence).after(BODY).push(127).right(13, 0).holds().look(3).is(1);
        probe(sentence).after(BODY).fault(1, 13, 0);
    }

    private static void rowCounted() {
        String sentence = "each has as many as x (FAULT 5)";
        // From the outermost one inwards: none, one, two.
        Consumer<Probe> blocks = p -> p.type().typeOf(0, 127, 127).begin(0).step(2, -1).step(2, 1)
                .times(4, q -> q.step(65));
        for (int x = 0; x <= 2; x++) {
            for (int label = 0; label <= 2; label++) {
                probe(sentence).after(blocks).label(label).step(14, x).is(x == label ? 0 : 5);
                probe(sentence).after(blocks).label(x).label(label).step(14, x).is(x == label ? 0 : 5);
                probe(sentence).after(blocks).times(19, p -> p.label(0)).label(label).step(14, 0)
                        .is(label == 0 ? 0 : 5);
                probe(sentence).after(blocks).right(0).label(label).step(14, x).is(x == label ? 0 : 5);
            }
        }
        // w32 is taken ahead of it.
        probe(sentence).after(BODY).right(2, -1).label(1).fault(1, 14, 0);
        probe(sentence).after(BODY).right(2, -1).push(127, 126).label(1).fault(1, 14, 0);
        probe(sentence).after(BODY).right(2, -1).push(126, 127).label(1).fault(5, 14, 0);
        // A block begun by 3 has as many as its parameters.
        Consumer<Probe> loop = p -> p.typeOf(127).begin(0).step(2, -1).step(65).step(3, 0).step(65);
        probe(sentence).after(loop).label(1).right(14, 0);
        probe(sentence).after(loop).label(2).fault(5, 14, 0);
        // Twelve and eleven.
        int[] types = new int[12];
        java.util.Arrays.fill(types, 127);
        Consumer<Probe> twelve = p -> p.type().times(12, q -> q.part(true, 127)).type()
                .times(11, q -> q.part(true, 127)).begin(0)
                .step(2, 1).step(2, 0).push(types).push(127);
        probe(sentence).after(twelve).label(2).label(0).right(14, 0);
        probe(sentence).after(twelve).label(1).fault(5, 14, 0);
        probe(sentence).after(twelve).label(0).fault(5, 14, 1);
        probe(sentence).after(twelve).label(1).right(14, 1);
    }

    private static void rowTakenAndGiven() {
        String sentence = "each is taken and given again, what was taken (UNKNOWN stays so)";
        // From the outermost one inwards: w64, w32, w32.
        Consumer<Probe> blocks = p -> p.typeOf(0, 126).begin(0).step(2, -1).step(2, -1);
        probe(sentence).after(blocks).push(127, 127).label(0).label(1).label(0).right(14, 0).holds();
        probe(sentence).after(blocks).push(127, 127).label(0).label(2).fault(1, 14, 0);
        probe(sentence).after(blocks).push(126, 127).label(0).label(2).fault(1, 14, 2);
        probe(sentence).after(blocks).push(126, 127).label(2).right(14, 2);
        probe(sentence).after(blocks).push(127).label(0).fault(1, 14, 0);
        // What is not there in a DEAD block, and UNKNOWN, is like each label's type in turn.
        probe(sentence).after(blocks).right(0).label(0).label(2).label(1).right(14, 2).holds();
        probe(sentence).after(blocks).right(0).right(27).push(127).label(2).label(0).label(2).right(14, 0).holds();
        // What is known stays so, too.
        probe(sentence).after(blocks).right(0).push(126, 127).label(2).label(0).fault(1, 14, 2);
        probe(sentence).after(blocks).right(0).push(127, 127).label(0).fault(1, 14, 2);
        Consumer<Probe> two = p -> p.typeOf(0, 127, 126).typeOf(0, 125, 126).begin(0).step(2, 1);
        probe(sentence).after(two).right(0).push(126, 127).label(0).label(1).right(14, 0).holds();
        probe(sentence).after(two).right(0).push(127, 126, 127).label(1).fault(1, 14, 0);
        probe(sentence).after(two).right(0).push(125, 126, 127).label(0).right(14, 0).holds();
        probe(sentence).after(two).right(0).push(125, 126, 127).label(0).fault(1, 14, 1);
    }

    private static void rowOneBehindTheOther() {
        String sentence = "one label behind the other: counted, taken, given; then that of x is taken";
        // From the outermost one inwards: none, w64, w32.
        Consumer<Probe> blocks = BODY.andThen(p -> p.step(2, -2).step(2, -1));
        probe(sentence).after(blocks).push(127, 127).label(1).label(2).fault(1, 14, 0);
        probe(sentence).after(blocks).push(127, 127).label(2).label(1).fault(5, 14, 0);
        probe(sentence).after(blocks).push(127, 127).label(0).label(2).fault(5, 14, 0);
        probe(sentence).after(blocks).push(127, 127).label(0).fault(1, 14, 1);
        probe(sentence).after(blocks).push(127, 127).label(2).fault(5, 14, 0);
        // Given again before the next one: at 200 operands of a DEAD block there is no room for what was not there.
        Consumer<Probe> full = BODY.andThen(p -> p.times(200, q -> q.step(65)).step(2, -1).step(0));
        probe(sentence).after(full).right(14, 0).look(0).is(200);
        probe(sentence).after(full).label(0).fault(15, 14, 0);
        probe(sentence).after(full).label(0).label(1).fault(15, 14, 0);
        probe(sentence).after(full).label(1).label(0).fault(5, 14, 0);
        Consumer<Probe> room = BODY.andThen(p -> p.times(199, q -> q.step(65)).step(2, -1).step(0));
        probe(sentence).after(room).label(0).label(0).right(14, 0).look(0).is(199);
    }

    private static void rowEmptyAndFull() {
        String sentence = "14 x: the labels of the row that was given by label(), then x; DEAD";
        probe(sentence).after(BODY).push(127).right(14, 0).look(3).is(0).holds().right(14, 0);
        probe(sentence).after(BODY).push(127).times(20, p -> p.label(0)).is(20).right(14, 0).look(3).is(0);
        probe(sentence).after(BODY).fault(1, 14, 0);
        probe(sentence).after(BODY).right(2, -1).push(127).fault(1, 14, 0);
        probe(sentence).after(BODY).right(2, -1).push(125, 127, 127).right(14, 0).look(3).is(0).holds();
        Consumer<Probe> blocks = BODY.andThen(p -> p.step(68).step(2, -1).step(2, -1).push(127, 127));
        probe(sentence).after(blocks).times(10, p -> p.label(0).label(1)).right(14, 1).holds(124).look(3).is(0);
        probe(sentence).after(blocks).times(19, p -> p.label(0)).label(2).is(20).fault(5, 14, 1);
        probe(sentence).after(blocks).times(20, p -> p.label(0)).label(2).is(-1).right(14, 1).holds(124);
    }

    private static void bodysResults() {
        String sentence = "15: the body's results; DEAD";
        Consumer<Probe> body = p -> p.typeOf(0, 127, 126).begin(0);
        probe(sentence).after(body).push(127, 126).right(15).look(3).is(0).holds();
        probe(sentence).after(body).push(125, 127, 126).right(15).holds();
        probe(sentence).after(body).push(126).fault(1, 15);
        probe(sentence).after(body).push(126, 127).fault(1, 15);
        probe(sentence).after(body).fault(1, 15);
        probe(sentence).after(body).push(127, 126).right(2, -64).fault(1, 15);
        probe(sentence).after(body).push(125).right(2, -1).push(127, 126).right(15).look(3).is(0).holds(125).look(1)
                .is(2);
        probe(sentence).after(body).times(59, p -> p.step(3, -64)).push(127, 126).right(15).look(1).is(60).look(3)
                .is(0);
        probe(sentence).after(body).right(0).push(126).right(15).right(15).holds();
        probe(sentence).after(BODY).right(15).look(3).is(0).state().is(1);
        // The body's own, not another type's.
        Consumer<Probe> second = p -> p.type().typeOf(0, 126).begin(1);
        probe(sentence).after(second).right(2, -64).push(126).right(15).holds();
        probe(sentence).after(second).right(2, -64).fault(1, 15);
        probe(sentence).after(second).right(2, -64).push(127).fault(1, 15);
    }

    private static void callOfFunction() {
        String sentence = "16 x: function x: its parameters > its results";
        Consumer<Probe> body = p -> p.type().typeOf(127, 126, 0, 125, 124).add(0, 1, 0).add(0, 0, 0).begin(0);
        probe(sentence).after(body).push(111, 127, 126).right(16, 0).holds(111, 125, 124);
        probe(sentence).after(body).right(16, 1).holds().fault(12, 16, 2);
        probe(sentence).after(body).push(126).fault(1, 16, 0);
        probe(sentence).after(body).push(126, 127).fault(1, 16, 0);
        probe(sentence).after(body).right(0).right(16, 0).holds(125, 124);
        int[] twelve = new int[25];
        java.util.Arrays.fill(twelve, 0, 12, 127);
        java.util.Arrays.fill(twelve, 13, 25, 126);
        Consumer<Probe> most = p -> p.typeOf(twelve).add(0, 0, 0).begin(0);
        probe(sentence).after(most).times(12, p -> p.step(65)).right(16, 0).look(0).is(12).operand(0).is(126)
                .operand(11).is(126);
        probe(sentence).after(most).times(11, p -> p.step(65)).fault(1, 16, 0);
    }

    private static void callByTable() {
        String sentence = "17 x y: table y must be of 112 (FAULT 6): w32, then the parameters of type x > its results";
        Consumer<Probe> body = p -> p.type().typeOf(126, 0, 125).add(1, 111, 0).add(1, 112, 0).begin(0);
        probe(sentence).after(body).push(127).right(17, 0, 1).holds().push(126, 127).right(17, 1, 1).holds(125);
        probe(sentence).after(body).push(127).fault(6, 17, 0, 0);
        probe(sentence).after(body).fault(6, 17, 1, 0);
        probe(sentence).after(body).right(0).fault(6, 17, 0, 0);
        probe(sentence).after(body).fault(1, 17, 0, 1);
        probe(sentence).after(body).push(127, 126).fault(1, 17, 1, 1);
        probe(sentence).after(body).push(127).fault(1, 17, 1, 1);
        probe(sentence).after(body).right(0).right(17, 1, 1).holds(125);
    }

    private static void drop() {
        String sentence = "26: any >";
        Probe x = probe(sentence).after(BODY).push(VALUES);
        for (int left = 5; left >= 0; left--) {
            x.right(26).look(0).is(left);
        }
        x.fault(1, 26);
        probe(sentence).after(BODY).right(0).right(26).right(27).right(26).holds().right(26).holds();
        probe(sentence).after(BODY).push(127).right(2, -64).fault(1, 26);
    }

    private static void chooseOperands() {
        String sentence = "27: w32, then two, alike, or one UNKNOWN > one of them (the one that is known)";
        for (int t : new int[] {127, 126, 125, 124}) {
            probe(sentence).after(BODY).push(111, t, t, 127).right(27).holds(111, t);
            probe(sentence).after(BODY).right(0).push(t, 127).right(27).holds(t);
            // UNKNOWN lies below the known one: it can't come to lie above it.
            probe(sentence).after(BODY).right(0).right(27).push(t, 127).right(27).holds(t);
            probe(sentence).after(BODY).push(t).right(2, -64).right(0).right(27).right(27).holds(t, 0);
        }
        Probe both = probe(sentence).after(BODY).right(0).right(27).holds(0).right(27).holds(0);
        both.push(127).right(27).holds(0).push(126, 127).right(27).holds(126);
        for (int t : VALUES) {
            Probe x = probe(sentence).after(BODY).push(126, 126, t);
            x.step(27).is(t == 127 ? 0 : 1);
        }
    }

    private static void chooseFaults() {
        String sentence = "two, which are no references (FAULT 7) and alike, or one UNKNOWN (FAULT 1)";
        for (int one : VALUES) {
            for (int other : VALUES) {
                boolean reference = one <= 112 || other <= 112;
                int want = reference ? 7 : one == other ? 0 : 1;
                probe(sentence).after(BODY).push(one, other, 127).step(27).is(want);
                probe(sentence).after(BODY).right(0).push(one, other, 127).step(27).is(want);
            }
            probe(sentence).after(BODY).right(0).push(one, 127).step(27).is(one <= 112 ? 7 : 0);
            probe(sentence).after(BODY).right(0).right(27).push(one, 127).step(27).is(one <= 112 ? 7 : 0);
            probe(sentence).after(BODY).push(one, 127).fault(1, 27);
            probe(sentence).after(BODY).push(one, one).step(27).is(1);
        }
        probe(sentence).after(BODY).push(127).fault(1, 27);
        probe(sentence).after(BODY).fault(1, 27);
        probe(sentence).after(BODY).push(126, 126).right(2, -64).push(127).fault(1, 27);
        probe(sentence).after(BODY).push(126).right(2, -64).push(126, 127).fault(1, 27);
        probe(sentence).after(BODY).push(111, 111, 126).fault(1, 27);
    }

    private static void chooseOfType() {
        String sentence = "28 x: a value type: w32, then two of x > x";
        for (int t : VALUES) {
            int other = t == 127 ? 126 : 127;
            probe(sentence).after(BODY).push(124, t, t, 127).right(28, t).holds(124, t);
            probe(sentence).after(BODY).push(t, t, 126).fault(1, 28, t);
            probe(sentence).after(BODY).push(other, t, 127).fault(1, 28, t);
            probe(sentence).after(BODY).push(t, other, 127).fault(1, 28, t);
            probe(sentence).after(BODY).push(t, 127).fault(1, 28, t);
            probe(sentence).after(BODY).right(0).right(28, t).holds(t);
            probe(sentence).after(BODY).right(0).push(t, 127).right(28, t).holds(t);
            probe(sentence).after(BODY).right(0).right(27).right(27).right(28, t).holds(t);
        }
        for (int t : Probe.NO_VALUE_TYPES) {
            probe(sentence).after(BODY).push(127, 127, 127).fault(13, 28, t);
        }
    }

    private static void locals() {
        String sentence = "32 x: > local x. 33 x: local x >. 34 x: local x > the same";
        for (int t : VALUES) {
            Consumer<Probe> body = p -> p.typeOf(t).begin(0).local(t == 127 ? 126 : 127, 1);
            int other = t == 127 ? 126 : 127;
            probe(sentence).after(body).right(32, 0).right(32, 1).holds(t, other).right(33, 1).right(34, 0).holds(t)
                    .right(33, 0).holds();
            probe(sentence).after(body).push(t).fault(1, 33, 1);
            probe(sentence).after(body).push(t).fault(1, 34, 1);
            probe(sentence).after(body).fault(1, 33, 0);
            probe(sentence).after(body).fault(1, 34, 0);
            probe(sentence).after(body).right(0).right(33, 0).holds().right(34, 0).holds(t);
            probe(sentence).after(body).right(0).right(27).right(34, 0).holds(t);
            for (int n = 32; n <= 34; n++) {
                probe(sentence).after(body).right(0).fault(12, n, 2);
                probe(sentence).after(body).right(0).fault(12, n, -1);
            }
        }
    }

    private static void globals() {
        String sentence = "35 x: > global x. 36 x: global x >, which must be able to change (FAULT 8)";
        for (int t : VALUES) {
            Consumer<Probe> body = p -> p.type().add(3, t, 0).add(3, t, 1).begin(0);
            probe(sentence).after(body).right(35, 0).right(35, 1).holds(t, t).right(36, 1).holds(t).fault(8, 36, 0);
            probe(sentence).after(body).fault(8, 36, 0);
            probe(sentence).after(body).fault(1, 36, 1);
            probe(sentence).after(body).push(t == 127 ? 126 : 127).fault(1, 36, 1);
            probe(sentence).after(body).push(t == 127 ? 126 : 127).fault(8, 36, 0);
            probe(sentence).after(body).right(0).right(36, 1).fault(8, 36, 0);
        }
        // The first and the last of 40: a mark of the one is not the other's.
        Probe x = probe(sentence).type().add(3, 127, 1).times(38, p -> p.add(3, 127, 0)).add(3, 127, 1).is(39)
                .begin(0).right(0);
        x.right(36, 0).right(36, 39).fault(8, 36, 38).begin(0).fault(8, 36, 1).begin(0).fault(12, 36, 40);
    }

    private static void tables() {
        String sentence = "37 x: w32 > the type of table x. 38 x: that, and ahead of it w32 >";
        Consumer<Probe> body = p -> p.type().add(1, 112, 0).add(1, 111, 0).begin(0);
        for (int table = 0; table <= 1; table++) {
            int t = 112 - table;
            int other = 111 + table;
            probe(sentence).after(body).push(125, 127).right(37, table).holds(125, t);
            probe(sentence).after(body).push(126).fault(1, 37, table);
            probe(sentence).after(body).fault(1, 37, table);
            probe(sentence).after(body).right(0).right(37, table).holds(t);
            probe(sentence).after(body).push(125, 127, t).right(38, table).holds(125);
            probe(sentence).after(body).push(127, other).fault(1, 38, table);
            probe(sentence).after(body).push(t, 127).fault(1, 38, table);
            probe(sentence).after(body).push(126, t).fault(1, 38, table);
            probe(sentence).after(body).push(t).fault(1, 38, table);
            probe(sentence).after(body).right(0).push(t).right(38, table).holds();
            probe(sentence).after(body).right(0).push(127).fault(1, 38, table);
        }
        probe(sentence).after(body).right(0).fault(12, 37, 2);
        probe(sentence).after(body).right(0).fault(12, 38, 2);
    }

    private static void memoryIsThere() {
        String sentence = "There must be a memory (FAULT 9)";
        for (int n = 40; n <= 62; n++) {
            probe(sentence).type().begin(0).right(0).fault(9, n, 0);
            probe(sentence).type().begin(0).fault(9, n, 99);
            probe(sentence).type().add(5, 0, 0).add(1, 112, 0).begin(0).right(0).fault(9, n, 0);
            probe(sentence).type().add(2, 0, 0).begin(0).right(0).right(n, 0);
            probe(sentence).type().begin(0).add(2, 0, 0).is(0).right(0).right(n, 0);
            probe(sentence).type().times(40, p -> p.add(2, 0, 0)).begin(0).right(0).right(n, 0);
        }
    }

    private static void powerOfTwo() {
        String sentence = "2 ^ x at most as many bytes as it moves (FAULT 10)";
        int[] bytes = {4, 8, 4, 8, 1, 1, 2, 2, 1, 1, 2, 2, 4, 4, 4, 8, 4, 8, 1, 2, 1, 2, 4};
        int[] powers = {30, 31, 32, 33, 34, 35, 63, 64, 65, 256, 65536, Probe.MAX, Probe.MIN, Probe.MIN + 1, -32, -31, -2, -1};
        for (int n = 40; n <= 62; n++) {
            Consumer<Probe> body = p -> p.type().add(2, 0, 0).begin(0);
            for (int x = 0; x <= 8; x++) {
                boolean fits = 1 << x <= bytes[n - 40];
                probe(sentence).after(body).right(0).step(n, x).is(fits ? 0 : 10);
                // Ahead of what is taken.
                probe(sentence).after(body).fault(fits ? 1 : 10, n, x);
            }
            for (int x : powers) {
                probe(sentence).after(body).right(0).fault(10, n, x);
            }
        }
    }

    private static void movedTypes() {
        String sentence = "loads: w32 > .. stores: the number, and ahead of it w32 >";
        int[] moved = {
            127, 126, 125, 124, 127, 127, 127, 127, 126, 126, 126, 126, 126, 126, 127, 126, 125, 124, 127, 127, 126, 126, 126
        };
        for (int n = 40; n <= 62; n++) {
            Consumer<Probe> body = p -> p.type().add(2, 0, 0).begin(0);
            int t = moved[n - 40];
            if (n < 54) {
                probe(sentence).after(body).push(111, 127).right(n).holds(111, t);
                probe(sentence).after(body).push(126).fault(1, n);
                probe(sentence).after(body).right(0).right(n).holds(t);
            } else {
                probe(sentence).after(body).push(111, 127, t).right(n).holds(111);
                probe(sentence).after(body).push(126, t).fault(1, n);
                probe(sentence).after(body).push(127, t == 127 ? 126 : 127).fault(1, n);
                probe(sentence).after(body).push(t).fault(1, n);
                probe(sentence).after(body).right(0).push(t).right(n).holds();
            }
        }
    }

    private static void memorySize() {
        String sentence = "63: > w32. 64: w32 > w32 (FAULT 9 likewise)";
        probe(sentence).type().begin(0).fault(9, 63).begin(0).fault(9, 64).begin(0).right(0).fault(9, 64);
        Consumer<Probe> body = p -> p.type().add(2, 0, 0).begin(0);
        probe(sentence).after(body).right(63).holds(127).right(64).holds(127).push(126).fault(1, 64);
        probe(sentence).after(body).fault(1, 64);
        probe(sentence).after(body).right(0).right(64).holds(127).right(63, -1, -1).holds(127, 127);
    }

    private static void constantsAndNumbers() {
        String sentence = "65 .. 68: > w32, w64, f32, f64 (whatever x and y are)";
        for (int x : new int[] {0, 1, -1, Probe.MIN, Probe.MAX}) {
            probe(sentence).after(BODY).right(65, x, x).right(66, x, x).right(67, x, x).right(68, x, x)
                    .holds(127, 126, 125, 124);
            probe(sentence).constant(124, 0).right(65, x, x).right(66, x, x).right(67, x, x).right(68, x, x)
                    .holds(127, 126, 125, 124);
        }
        // The numbers on both sides of each gap: InstructionsTest has what each takes and gives.
        int[] none = {-1, 6, 10, 18, 25, 29, 31, 39, 197, 207, 211, 255, 274, Probe.MIN, Probe.MAX};
        for (int n : none) {
            probe("A number that is no instruction: FAULT 13").after(BODY).right(0).fault(13, n);
        }
        for (int n : new int[] {0, 5, 11, 17, 26, 28, 32, 38, 40, 196, 208, 210, 256, 273}) {
            probe("A number that is an instruction").after(BODY).push(127).right(4, -64).right(0)
                    .after(p -> p.step(n, 127))
                    .after(p -> due.is("step(" + n + ") is no FAULT 13", p.answer() == 13, n == 208));
        }
    }

    private static void references() {
        String sentence = "208 x: a reference type: > x. 209: a reference (FAULT 7 when it is none; UNKNOWN is one) > w32";
        probe(sentence).after(BODY).right(208, 112).right(208, 111).holds(112, 111).right(209).holds(112, 127)
                .right(26).right(209);
        for (int t : Probe.NO_VALUE_TYPES) {
            probe(sentence).after(BODY).fault(13, 208, t);
        }
        for (int t : new int[] {127, 126, 125, 124}) {
            probe(sentence).after(BODY).fault(13, 208, t);
            probe(sentence).after(BODY).push(111, t).fault(7, 209);
            probe(sentence).after(BODY).right(0).push(t).fault(7, 209);
        }
        probe(sentence).after(BODY).fault(1, 209);
        probe(sentence).after(BODY).push(112).right(2, -64).fault(1, 209);
        probe(sentence).after(BODY).right(0).right(209).holds(127).right(26).right(27).right(209).holds(127);
    }

    private static void declaredFunction() {
        String sentence = "210 x: function x, which must be DECLARED (FAULT 11): > 112";
        Consumer<Probe> things = p -> p.type().add(0, 0, 0).add(0, 0, 0).add(0, 0, 0).declare(1);
        for (Consumer<Probe> code : List.<Consumer<Probe>>of(p -> p.begin(0), p -> p.constant(112, 0))) {
            probe(sentence).after(things).after(code).right(210, 1).holds(112);
            probe(sentence).after(things).after(code).fault(11, 210, 0);
            probe(sentence).after(things).after(code).fault(11, 210, 2);
            probe(sentence).after(things).after(code).fault(12, 210, 3);
            probe(sentence).after(things).after(code).fault(12, 210, -1);
        }
    }

    private static void dataAndMemory() {
        String sentence = "264 x: data x: w32 w32 w32 >. 265 x: data x. 266, 267: w32 w32 w32 >. (264, 266, 267: FAULT 9 likewise.)";
        for (int n : new int[] {264, 266, 267}) {
            probe(sentence).type().add(5, 0, 0).begin(0).right(0).fault(9, n, 0);
            probe(sentence).type().add(5, 0, 0).begin(0).fault(9, n, 0);
            Consumer<Probe> body = p -> p.type().add(5, 0, 0).add(2, 0, 0).begin(0);
            probe(sentence).after(body).push(125, 127, 127, 127).right(n, 0).holds(125);
            probe(sentence).after(body).push(127, 127).fault(1, n, 0);
            for (int other = 0; other < 3; other++) {
                int[] operands = {127, 127, 127};
                operands[other] = 126;
                probe(sentence).after(body).push(operands).fault(1, n, 0);
            }
            probe(sentence).after(body).right(0).right(n, 0).holds();
            probe(sentence).after(body).right(0).step(n, 1).is(n == 264 ? 12 : 0);
            probe(sentence).after(body).right(0).step(n, -1).is(n == 264 ? 12 : 0);
        }
        probe(sentence).type().begin(0).fault(12, 264, 0).begin(0).fault(12, 265, 0);
        probe(sentence).type().add(5, 0, 0).begin(0).right(265, 0).holds().fault(12, 265, 1);
        probe(sentence).type().add(5, 0, 0).begin(0).fault(12, 265, -1);
    }

    private static void elementsAndTables() {
        String sentence = "268 x y: element x, table y: of one type (FAULT 6). 270 x y: tables x and y of one type (FAULT 6)";
        Consumer<Probe> body = p -> p.type().add(4, 112, 0).add(4, 111, 0).add(1, 112, 0).add(1, 111, 0).begin(0);
        for (int n : new int[] {268, 270}) {
            for (int x = 0; x <= 1; x++) {
                for (int y = 0; y <= 1; y++) {
                    probe(sentence).after(body).push(125, 127, 127, 127).step(n, x, y).is(x == y ? 0 : 6).look(0)
                            .is(x == y ? 1 : -1);
                    probe(sentence).after(body).right(0).step(n, x, y).is(x == y ? 0 : 6);
                    probe(sentence).after(body).fault(x == y ? 1 : 6, n, x, y);
                }
            }
            probe(sentence).after(body).push(127, 127).fault(1, n, 0, 0);
            for (int other = 0; other < 3; other++) {
                int[] operands = {127, 127, 127};
                operands[other] = 126;
                probe(sentence).after(body).push(operands).fault(1, n, 1, 1);
            }
            for (int missing : new int[] {2, -1, Probe.MIN, Probe.MAX}) {
                probe(sentence).after(body).right(0).fault(12, n, missing, 0);
                probe(sentence).after(body).right(0).fault(12, n, 1, missing);
            }
        }
        // No memory is asked for; 269 takes nothing.
        probe("269 x: element x").after(body).right(269, 0).right(269, 1).holds().fault(12, 269, 2);
        probe("269 x: element x").after(body).fault(12, 269, -1);
        // Two elements and one table: the numbers of each kind are looked up apart.
        probe(sentence).type().add(4, 112, 0).add(4, 112, 0).add(1, 112, 0).begin(0).right(0).right(268, 1, 0)
                .fault(12, 268, 0, 1);
    }

    private static void tableSizes() {
        String sentence = "271 x: w32, then the type of table x > w32. 272 x: > w32. 273 x: w32, the type of table x, w32 >";
        Consumer<Probe> body = p -> p.type().add(1, 112, 0).add(1, 111, 0).begin(0);
        for (int table = 0; table <= 1; table++) {
            int t = 112 - table;
            int other = 111 + table;
            probe(sentence).after(body).push(125, t, 127).right(271, table).holds(125, 127);
            probe(sentence).after(body).push(127, t).fault(1, 271, table);
            probe(sentence).after(body).push(other, 127).fault(1, 271, table);
            probe(sentence).after(body).push(127).fault(1, 271, table);
            probe(sentence).after(body).right(272, table).holds(127);
            probe(sentence).after(body).push(125, 127, t, 127).right(273, table).holds(125);
            probe(sentence).after(body).push(t, 127).fault(1, 273, table);
            probe(sentence).after(body).push(126, t, 127).fault(1, 273, table);
            probe(sentence).after(body).push(127, other, 127).fault(1, 273, table);
            probe(sentence).after(body).push(127, t, 126).fault(1, 273, table);
            probe(sentence).after(body).right(0).right(273, table).right(271, table).holds(127);
        }
        for (int n = 271; n <= 273; n++) {
            probe(sentence).after(body).right(0).fault(12, n, 2);
            probe(sentence).after(body).right(0).fault(12, n, -1);
        }
    }
}
