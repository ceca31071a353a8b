import java.util.function.Consumer;

/** 'Terms' but for the instructions, sentence by sentence: value types, numbers, blocks, labels, TAKE and GIVE. */
public final class BoundsOfTermsTest {
    private static final Due due = new Due("BoundsOfTermsTest");

    public static void main(String[] args) {
        valueTypes();
        referenceTypes();
        parametersAndResults();
        numbersFromNullOn();
        parametersAreFirstLocals();
        operandsOrUnknown();
        outermostBlock();
        blockTypes();
        blockTypesAround();
        blockHeight();
        labelsOutwards();
        labelOfEachOpener();

        takenFromTheEnd();
        nothingGoesWhenDead();
        noneAboveTheHeight();
        anotherOne();
        unknownIsLikeAny();
        rowTakenFromItsLast();
        givenToTheEnd();
        deadLosesOperands();
        due.finish();
    }

    private static Probe probe(String sentence) {
        return new Probe(due, sentence);
    }

    private static void valueTypes() {
        String sentence = "VALUE TYPES: 127, 126, 125, 124, 112, 111";
        for (int t = -200; t <= 300; t++) {
            boolean one = t >= 124 && t <= 127 || t == 112 || t == 111;
            Probe x = probe(sentence).type().part(false, t).is(one ? 1 : -1).part(true, t).is(one ? 1 : -1);
            x.add(3, t, 0).is(one ? 0 : -1).constant(t, 0).is(one).state().is(one ? 1 : 0);
            x.type().begin(1).local(t, 1).is(one).step(0).step(28, t).is(one ? 0 : 13).state().is(one ? 1 : 0);
        }
    }

    private static void referenceTypes() {
        String sentence = "112 and 111 are REFERENCE TYPES";
        for (int t = -200; t <= 300; t++) {
            boolean one = t == 112 || t == 111;
            Probe x = probe(sentence).type().add(1, t, 0).is(one ? 0 : -1).add(4, t, 0).is(one ? 0 : -1);
            x.begin(0).step(208, t).is(one ? 0 : 13).constant(127, 0).step(208, t).is(one ? 0 : 13);
        }
        for (int t : Probe.VALUE_TYPES) {
            boolean one = t <= 112;
            probe(sentence).type().begin(0).push(t).step(209).is(one ? 0 : 7);
            probe(sentence).type().begin(0).push(t, t, 127).step(27).is(one ? 7 : 0);
        }
    }

    private static void parametersAndResults() {
        String sentence = "A FUNCTION TYPE has PARAMETERS and RESULTS, rows of value types";
        Probe x = probe(sentence).type().typeOf(127).typeOf(0, 126).typeOf(125, 0, 124).add(0, 0, 0).add(0, 1, 0)
                .add(0, 2, 0)
                .add(0, 3, 0);
        x.begin(0).right(16, 0).holds().push(127).right(16, 1).holds().right(16, 2).holds(126).push(125).right(16, 3);
        x.holds(126, 124);
    }

    private static void numbersFromNullOn() {
        String sentence = "all have numbers from 0 on";
        Probe x = probe(sentence).type().is(0).type().is(1).add(0, 1, 0).is(0).add(0, 0, 0).is(1);
        int[] kinds = {1, 2, 3, 4, 5};
        for (int kind : kinds) {
            x.add(kind, 112, 0).is(0).add(kind, 112, 0).is(1);
        }
        // What names each, and how many there are: 0 and the last one are there, -1 and the next one not.
        int[] uses = {16, 272, 35, 269, 265, 264, 37, 271, 273, 38, 36, 210};
        for (int n : uses) {
            x.begin(0).step(0).step(n, -1).is(12).begin(0).step(0).step(n, 2).is(12);
            int found = n == 36 ? 8 : n == 210 ? 11 : 0;
            x.begin(0).step(0).step(n, 0).is(found).begin(0).step(0).step(n, 1).is(found);
        }
        for (int n : new int[] {2, 3, 4}) {
            x.begin(0).right(0).right(n, 0).right(0).right(n, 1).right(0).fault(12, n, 2);
        }
        x.begin(0).right(0).right(17, 0, 0).right(17, 1, 1).fault(12, 17, 2, 0).begin(0).right(0).fault(12, 17, 0, 2);
        x.begin(0).right(0).fault(12, 17, -1, 0).begin(0).right(0).fault(12, 17, 0, -1);
        x.begin(0).right(0).right(268, 0, 0).right(268, 1, 1).fault(12, 268, 2, 0).begin(0).right(0)
                .fault(12, 268, 0, 2);
        x.begin(0).right(0).right(270, 0, 0).right(270, 1, 1).fault(12, 270, 2, 0).begin(0).right(0)
                .fault(12, 270, 0, 2);
        x.begin(0).right(0).fault(12, 270, -1, 0).begin(0).right(0).fault(12, 270, 0, -1);
    }

    private static void parametersAreFirstLocals() {
        String sentence = "a BODY of a function type, with its parameters as its first LOCALS";
        probe(sentence).typeOf(0, 127, 126).begin(0).look(5).is(0).fault(12, 32, 0);
        probe(sentence).typeOf(0, 127).begin(0).local(124, 1).is(true).right(32, 0).holds(124).fault(12, 32, 1);
        probe(sentence).typeOf(111).begin(0).local(124, 1).is(true).right(32, 0).right(32, 1).holds(111, 124)
                .fault(12, 32, 2);
        int[] twelve = {127, 126, 125, 124, 112, 111, 111, 112, 124, 125, 126, 127};
        Probe x = probe(sentence).typeOf(twelve).begin(0).look(5).is(12).local(124, 1).is(true).look(5).is(13);
        for (int i = 0; i < 12; i++) {
            x.right(32, i).operand(0).is(twelve[i]);
        }
        x.right(32, 12).operand(0).is(124).fault(12, 32, 13);
        // A CONSTANT has none, though a body had some before it.
        probe(sentence).typeOf(127).begin(0).look(5).is(1).constant(127, 0).look(5).is(0);
    }

    private static void operandsOrUnknown() {
        String sentence = "It has a row of OPERANDS, types or UNKNOWN (0)";
        probe(sentence).typeOf(127, 126).begin(0).holds().push(Probe.VALUE_TYPES).holds(127, 126, 125, 124, 112, 111);
        probe(sentence).type().begin(0).right(0).right(27).holds(0).right(26).holds().right(27).right(27).holds(0);
        probe(sentence).constant(127, 0).holds().push(111).holds(111);
    }

    private static void outermostBlock() {
        String sentence = "the outermost one has the body's results, no parameters";
        probe(sentence).typeOf(127, 0, 126).begin(0).holds().look(2).is(0).fault(1, 26);
        probe(sentence).typeOf(127, 0, 126).begin(0).push(126).right(11).state().is(2);
        probe(sentence).typeOf(127, 0, 126).begin(0).push(127).fault(1, 11);
        probe(sentence).typeOf(127, 0, 126).begin(0).push(126).right(12, 0);
        probe(sentence).typeOf(127).begin(0).right(12, 0).begin(0).right(11).state().is(2);
        probe(sentence).constant(125, 0).push(125).right(11).state().is(2);
    }

    private static void blockTypes() {
        String sentence = "A BLOCK TYPE is -64 (nothing), a value type less 128, or the number of a function type";
        for (int opener = 2; opener <= 4; opener++) {
            for (int x = -300; x <= 45; x++) {
                boolean value = x >= -4 && x <= -1 || x == -16 || x == -17;
                boolean some = value || x == -64 || x >= 0 && x < 3;
                int want = some ? 0 : x >= 0 ? 12 : 13;
                Probe p = probe(sentence).type().type().typeOf(127, 126, 0, 125).begin(0).right(0);
                p.step(opener, x).is(want).look(1).is(some ? 2 : -1).look(0).is(!some ? -1 : x == 2 ? 2 : 0);
                if (some) {
                    p.right(0).step(5).is(opener == 4 ? 0 : 2);
                    p.begin(0).right(0).right(opener == 4 ? 2 : opener, x).right(0).right(11);
                    p.look(0).is(value || x == 2 ? 1 : 0).operand(0).is(value ? x + 128 : x == 2 ? 125 : -1);
                }
            }
        }
    }

    /** Numbers whose sum with 128 would leave 32 bits, or whose last bits are a block type's. */
    private static void blockTypesAround() {
        String sentence = "A BLOCK TYPE (no other number)";
        for (int opener = 2; opener <= 4; opener++) {
            for (int x : new int[] {Probe.MAX, Probe.MAX - 1, Probe.MAX - 63, Probe.MAX - 127, 127, 112, 256, 65536, 64, 40, 39, 1}) {
                probe(sentence).type().begin(0).right(0).fault(12, opener, x);
            }
            for (int x : new int[] {Probe.MIN, Probe.MIN + 1, Probe.MIN + 64, Probe.MIN + 127, -128, -129, -256, -320, -257}) {
                probe(sentence).type().begin(0).right(0).fault(13, opener, x);
            }
            Probe full = probe(sentence).times(40, Probe::type).begin(0).right(0).right(opener, 39);
            full.right(0).fault(12, opener, 40);
        }
    }

    private static void blockHeight() {
        String sentence = "a HEIGHT, how many operands there were when it began (its parameters not counted)";
        Probe x = probe(sentence).type().typeOf(127).typeOf(127, 126, 0, 127).begin(0).right(2, 0).look(2).is(0);
        x.push(127).right(3, 0).look(2).is(1).right(11).right(2, 1).look(2).is(0).look(0).is(1);
        x.begin(0).push(125, 127, 126).right(2, 2).look(2).is(1).look(0).is(3).right(0).look(0).is(1);
        // In a DEAD block a parameter that was not there is none of them either.
        x.begin(0).push(124).right(2, -64).right(0).right(2, 2).look(2).is(1).holds(124, 127, 126);
        x.begin(0).push(124).right(2, -64).right(0).push(126).right(3, 2).look(2).is(1).holds(124, 127, 126);
        x = probe(sentence).type().times(12, p -> p.part(false, 127)).begin(0).times(200, p -> p.step(65)).right(2, 0)
                .look(2).is(188);
        x.look(0).is(200).right(2, -64).look(2).is(200).fault(15, 65);
    }

    private static void labelsOutwards() {
        String sentence = "The LABEL of the block that is k blocks outwards (0 the innermost one)";
        // From the outermost one inwards: f32, w32, w64, f64.
        Consumer<Probe> blocks = p -> p.typeOf(0, 125).begin(0).step(2, -1).step(2, -2).step(2, -4);
        int[] labels = {124, 126, 127, 125};
        for (int k = 0; k < 4; k++) {
            for (int t : Probe.VALUE_TYPES) {
                probe(sentence).after(blocks).push(t).step(12, k).is(t == labels[k] ? 0 : 1);
                probe(sentence).after(blocks).push(t, 127).step(13, k).is(t == labels[k] ? 0 : 1);
                probe(sentence).after(blocks).push(t, 127).step(14, k).is(t == labels[k] ? 0 : 1);
                probe(sentence).after(blocks).push(t, 127).label(k).step(14, k).is(t == labels[k] ? 0 : 1);
            }
        }
        for (int k : new int[] {4, 5, 59, 60, 256, Probe.MAX, -1, -2, Probe.MIN}) {
            for (int n = 12; n <= 14; n++) {
                probe(sentence).after(blocks).right(0).fault(12, n, k);
            }
            probe(sentence).after(blocks).right(0).label(k).fault(12, 14, 0);
        }
        // Block 59 is the outermost one of 60.
        Consumer<Probe> most = p -> p.type().begin(0).times(59, q -> q.step(2, -64));
        probe(sentence).after(most).look(1).is(60).right(12, 59).fault(12, 12, 60);
        probe(sentence).after(most).push(127).label(59).is(1).right(14, 59).push(127).label(60).is(1).fault(12, 14, 59);
        probe(sentence).type().begin(0).right(12, 0).fault(12, 12, 1);
        // A block that has ended is none any more.
        probe(sentence).after(blocks).right(0).right(11).right(0).right(12, 2).fault(12, 12, 3);
    }

    private static void labelOfEachOpener() {
        String sentence = "its parameters for one begun by 3, otherwise its results";
        Consumer<Probe> types = p -> p.typeOf(126, 0, 125).begin(0);
        for (int opener = 2; opener <= 4; opener++) {
            int o = opener;
            Consumer<Probe> block = types.andThen(p -> p.step(66).after(q -> q.times(o == 4 ? 1 : 0, r -> r.step(65))).step(o, 0));
            probe(sentence).after(block).look(1).is(2).step(12, 0).is(o == 3 ? 0 : 1);
            probe(sentence).after(block).push(125).step(12, 0).is(o == 3 ? 1 : 0);
            probe(sentence).after(block).push(127).step(13, 0).is(o == 3 ? 0 : 1);
            probe(sentence).after(block).push(125, 127).step(13, 0).is(o == 3 ? 1 : 0);
            probe(sentence).after(block).right(0).right(13, 0).holds(o == 3 ? 126 : 125);
        }
        Consumer<Probe> otherwise = types.andThen(p -> p.step(66).step(65).step(4, 0).step(67).step(12, 0).step(5));
        probe(sentence).after(otherwise).look(4).is(5).fault(1, 12, 0);
        probe(sentence).after(otherwise).push(125).right(12, 0);
        probe(sentence).after(types).push(125).right(12, 0);
        probe(sentence).after(types).push(126).fault(1, 12, 0);
        // One without parameters, and one without results.
        probe(sentence).typeOf(0, 127).begin(0).right(3, 0).right(12, 0).look(3).is(0);
        probe(sentence).typeOf(127).begin(0).push(127).right(2, 0).right(12, 0).look(3).is(0);
        probe(sentence).typeOf(127).begin(0).push(127).right(3, 0).right(26).fault(1, 12, 0);
        probe(sentence).type().begin(0).right(3, -1).right(12, 0).begin(0).right(2, -1).fault(1, 12, 0);
    }

    private static void takenFromTheEnd() {
        String sentence = "To TAKE a type: from the end of the row";
        probe(sentence).type().begin(0).push(126, 127).right(69).holds(126, 127).right(26).holds(126).fault(1, 69);
        probe(sentence).type().begin(0).push(127, 126).fault(1, 69);
    }

    private static void nothingGoesWhenDead() {
        String sentence = "when a DEAD block has no operand above its HEIGHT, nothing goes";
        Probe x = probe(sentence).type().begin(0).push(127, 126).right(2, -64).right(0).holds(127, 126);
        x.right(26).right(26).right(26).holds(127, 126).right(106).holds(127, 126, 127).right(106).holds(127, 126, 127);
        x.right(26).right(160).holds(127, 126, 124).right(26).right(26).holds(127, 126);
        probe(sentence).type().begin(0).right(0).right(26).holds().right(106).holds(127);
    }

    private static void noneAboveTheHeight() {
        String sentence = "FAULT 1 when there is none above the height (LIVE)";
        probe(sentence).type().begin(0).fault(1, 26).begin(0).fault(1, 69);
        probe(sentence).type().begin(0).push(127).right(69).right(26).fault(1, 26);
        probe(sentence).type().begin(0).push(127).fault(1, 106);
        probe(sentence).type().begin(0).push(127, 127).right(2, -64).look(0).is(2).fault(1, 26);
        probe(sentence).type().begin(0).push(127, 127).right(2, -64).push(127).right(69).fault(1, 106);
        // A LIVE block within a DEAD one, and what is LIVE again behind a DEAD one.
        probe(sentence).type().begin(0).right(0).right(2, -64).fault(1, 26);
        probe(sentence).type().begin(0).right(2, -64).right(0).right(26).right(11).fault(1, 26);
        probe(sentence).type().begin(0).right(0).right(2, -64).right(11).right(26);
        probe(sentence).constant(127, 0).fault(1, 11);
    }

    private static void anotherOne() {
        String sentence = "FAULT 1 when it is another one";
        for (int t : Probe.VALUE_TYPES) {
            for (int other : Probe.VALUE_TYPES) {
                Consumer<Probe> body = p -> p.type().add(3, t, 1).begin(0);
                probe(sentence).after(body).push(other).step(36, 0).is(t == other ? 0 : 1);
                probe(sentence).after(body).right(0).push(other).step(36, 0).is(t == other ? 0 : 1);
                probe(sentence).after(body).push(t).right(2, -64).push(other).step(36, 0).is(t == other ? 0 : 1);
                probe(sentence).after(body).push(t, other).step(36, 0).is(t == other ? 0 : 1);
            }
        }
    }

    private static void unknownIsLikeAny() {
        String sentence = "UNKNOWN is like any";
        for (int t : Probe.VALUE_TYPES) {
            Probe x = probe(sentence).type().add(3, t, 1).begin(0).right(0).right(27).holds(0).right(36, 0).holds();
            x.right(36, 0).holds().push(t).right(36, 0).holds();
        }
        probe(sentence).typeOf(0, 124).begin(0).right(0).right(27).right(11).state().is(2);
    }

    private static void rowTakenFromItsLast() {
        String sentence = "A row of types is taken from its last one on";
        Consumer<Probe> body = p -> p.typeOf(127, 126, 125).add(0, 0, 0).begin(0);
        probe(sentence).after(body).push(127, 126, 125).right(16, 0).holds();
        probe(sentence).after(body).push(125, 126, 127).fault(1, 16, 0);
        // A DEAD block shows which one comes first.
        probe(sentence).after(body).right(0).push(125).right(16, 0).begin(0).right(0).push(126, 125).right(16, 0);
        probe(sentence).after(body).right(0).push(127).fault(1, 16, 0);
        probe(sentence).after(body).right(0).push(127, 126).fault(1, 16, 0);
        probe(sentence).after(body).right(0).push(126).fault(1, 16, 0);
        int[] twelve = {111, 127, 127, 127, 127, 127, 127, 127, 127, 127, 127, 124};
        Consumer<Probe> most = p -> p.typeOf(twelve).add(0, 0, 0).begin(0);
        probe(sentence).after(most).push(twelve).right(16, 0).holds().fault(1, 26);
        probe(sentence).after(most).push(126).push(twelve).right(16, 0).holds(126);
        int[] otherFirst = twelve.clone();
        otherFirst[0] = 112;
        probe(sentence).after(most).push(otherFirst).fault(1, 16, 0);
        int[] eleven = java.util.Arrays.copyOfRange(twelve, 1, 12);
        probe(sentence).after(most).push(eleven).fault(1, 16, 0);
        probe(sentence).after(most).right(0).push(eleven).right(16, 0).holds();
    }

    private static void givenToTheEnd() {
        String sentence = "To GIVE a type: it comes to the end";
        Probe x = probe(sentence).typeOf(0, 112, 126, 111).add(0, 0, 0).begin(0).push(127).holds(127).push(125)
                .holds(127, 125);
        x.right(16, 0).holds(127, 125, 112, 126, 111);
        int[] twelve = {111, 127, 126, 125, 124, 112, 112, 124, 125, 126, 127, 111};
        Consumer<Probe> results = p -> {
            p.type();
            for (int t : twelve) {
                p.part(true, t);
            }
        };
        probe(sentence).after(results).add(0, 0, 0).begin(0).right(16, 0).holds(twelve);
    }

    private static void deadLosesOperands() {
        String sentence = "The block becomes DEAD: all operands above its height go";
        Probe x = probe(sentence).type().begin(0).push(127, 126).right(2, -64).push(125, 124).holds(127, 126, 125, 124);
        x.right(0).holds(127, 126).look(3).is(0).look(2).is(2).right(11).holds(127, 126).look(3).is(1);
        x.right(0).holds().look(3).is(0).right(0).holds().look(3).is(0).push(127, 126).right(0).holds();
        x = probe(sentence).type().begin(0).times(200, p -> p.step(65)).right(0).holds().times(200, p -> p.step(66))
                .is(0).look(0).is(200);
        // The ones around it stay LIVE.
        x = probe(sentence).type().begin(0).right(2, -64).right(3, -64).right(0).look(3).is(0).right(11).look(3).is(1)
                .fault(1, 26);
    }
}
