import java.util.function.Consumer;

/** Promises 1 to 5, sentence by sentence: the edges of each, and what a refused call leaves as it was. */
public final class BoundsOfThingsTest {
    private static final Due due = new Due("BoundsOfThingsTest");
    private static final int[] NO_REFERENCE_TYPES = {
        113, 110, 127, 126, 125, 124, 0, 1, -1, -16, -17, 112 + 256, 111 - 256, Probe.MIN + 112, Probe.MIN, Probe.MAX
    };
    private static final int[] GOOD_A = {0, 112, 0, 127, 111, 0};

    public static void main(String[] args) {
        nothingOfAnything();
        noCode();
        objectsApart();

        newTypeWithoutParts();
        fortyTypes();
        typeLeavesCode();

        onePartMore();
        partsCountedApart();
        latestTypeAlone();
        partOfNone();
        partOfNoValueType();
        twelveParts();
        partInCode();

        numbersOfThings();
        functionOfAType();
        tablesAndElements();
        globals();
        lookedAtForGlobalsAlone();
        noSuchKind();
        fortyOfAKind();
        addLeavesCode();

        declared();
        declaredAlone();
        declareNone();
        due.finish();
    }

    private static Probe probe(String sentence) {
        return new Probe(due, sentence);
    }

    private static void refused(String sentence, long want, Consumer<Probe> past, Consumer<Probe> call) {
        Twins.refused(due, sentence, want, past, call);
    }

    // Promise 1

    private static void nothingOfAnything() {
        String sentence = "Nothing of anything";
        probe(sentence).begin(0).is(false).add(0, 0, 0).is(-1).declare(0).is(false).part(false, 127).is(-1);
        int[] named = {16, 210, 32, 33, 34, 35, 36, 37, 38, 264, 265, 268, 269, 270, 271, 272, 273};
        for (int n : named) {
            probe(sentence).type().is(0).begin(0).is(true).fault(12, n);
        }
        for (int n : new int[] {40, 54, 63, 64, 266, 267}) {
            probe(sentence).type().begin(0).is(true).fault(9, n);
        }
        probe(sentence).type().begin(0).is(true).fault(12, 17);
        probe(sentence).constant(127, 1).is(true).fault(14, 35, 0);
        Probe counts = probe(sentence).type().is(0);
        for (int kind = 0; kind < 6; kind++) {
            counts.add(kind, GOOD_A[kind], 0).is(0);
        }
    }

    private static void noCode() {
        Probe x = probe("no code").state().is(0).operand(0).is(-1).operand(-1).is(-1);
        for (int what = -1; what <= 6; what++) {
            x.look(what).is(-1);
        }
        x.label(0).is(-1).local(127, 1).is(false).step(1).is(-1).step(11).is(-1).step(6).is(-1).state().is(0);
    }

    private static void objectsApart() {
        String sentence = "Nothing of anything, in a second object too";
        Probe first = probe(sentence).typeOf(127, 0, 126).add(2, 0, 0).add(0, 0, 0).declare(0).begin(0).push(127)
                .label(0);
        Probe second = probe(sentence).state().is(0).begin(0).is(false).type().is(0).part(false, 125).is(1);
        second.part(true, 125).is(1).add(2, 0, 0).is(0).add(0, 0, 0).is(0).begin(0).is(true).label(0).is(1)
                .fault(11, 210);
        first.holds(127).label(0).is(2).state().is(1);
    }

    // Promise 2

    private static void newTypeWithoutParts() {
        String sentence = "A new function type without parameters and results: its number";
        Probe x = probe(sentence).type().is(0).begin(0).is(true).look(5).is(0).right(11).state().is(2);
        for (int i = 0; i < 12; i++) {
            x.part(false, 127).is(i + 1).part(true, 126).is(i + 1);
        }
        x.type().is(1).begin(1).is(true).look(5).is(0).right(2, 1).holds().right(11).holds().right(11).state().is(2);
        x.part(false, 127).is(1).part(true, 127).is(1);
    }

    private static void fortyTypes() {
        String sentence = "-1 when there are 40";
        Probe x = probe(sentence);
        for (int i = 0; i < 40; i++) {
            x.type().is(i);
        }
        x.type().is(-1).type().is(-1);
        x.part(true, 127).is(1).begin(39).is(true).push(127).right(11).state().is(2).begin(40).is(false);
        x.add(0, 39, 0).is(0).add(0, 40, 0).is(-1);
        refused(sentence, -1, p -> p.times(40, Probe::type).part(false, 127).part(true, 126), Probe::type);
        refused(sentence, -1, p -> p.times(40, Probe::type).begin(0).local(125, 2).label(0), Probe::type);
    }

    private static void typeLeavesCode() {
        String sentence = "A new function type (in code, too, which stays)";
        Probe x = probe(sentence).typeOf(127).begin(0).is(true).local(126, 1).is(true).label(0).is(1);
        x.type().is(1).state().is(1).label(0).is(2).local(125, 1).is(true).look(5).is(3);
        x.push(127).right(3, 1).holds(127).type().is(2).holds(127).look(1).is(2);
    }

    // Promise 3

    private static void onePartMore() {
        String sentence = "one more parameter, or result, behind the others: how many it has of these";
        int[] row = {126, 111, 127, 125, 112, 124, 127, 126, 125, 124, 112, 111};
        Probe x = probe(sentence).type();
        for (int i = 0; i < 12; i++) {
            x.part(false, row[i]).is(i + 1);
            x.part(true, row[11 - i]).is(i + 1);
            x.begin(0).look(5).is(i + 1).fault(1, 26);
        }
        x.begin(0).is(true).right(0).right(2, 0).holds(row).right(0).right(11);
        x.holds(111, 112, 124, 125, 126, 127, 124, 112, 125, 127, 111, 126);
    }

    private static void partsCountedApart() {
        String sentence = "how many it has of these";
        probe(sentence).type().part(false, 127).is(1).part(true, 127).is(1).part(true, 127).is(2).part(false, 127).is(2)
                .part(true, 127).is(3).part(false, 126).is(3);
    }

    private static void latestTypeAlone() {
        String sentence = "The latest function type has one more";
        Probe x = probe(sentence).typeOf(127, 0, 126).type().is(1).part(false, 125).is(1).part(true, 124).is(1).type()
                .is(2);
        x.part(false, 112).is(1).part(false, 111).is(2);
        x.begin(0).look(5).is(1).right(0).right(2, 0).holds(127).right(0).right(11).holds(126);
        x.begin(1).look(5).is(1).right(0).right(2, 1).holds(125).right(0).right(11).holds(124);
        x.begin(2).look(5).is(2).right(0).right(2, 2).holds(112, 111).right(0).right(11).holds();
        // The 41st one is none, so the 40th stays the latest.
        x = probe(sentence).times(39, Probe::type).part(false, 127).is(1).type().is(39).type().is(-1).part(false, 126)
                .is(1);
        x.begin(38).look(5).is(1).right(32, 0).holds(127).begin(39).look(5).is(1).right(32, 0).holds(126);
    }

    private static void partOfNone() {
        String sentence = "-1 when there is none";
        for (boolean result : new boolean[] {false, true}) {
            refused(sentence, -1, p -> { }, p -> p.part(result, 127));
            refused(sentence, -1, p -> p.add(2, 0, 0), p -> p.part(result, 111));
            probe(sentence).part(result, 127).is(-1).type().is(0).part(result, 127).is(1);
        }
    }

    private static void partOfNoValueType() {
        String sentence = "-1 when t is no value type";
        for (boolean result : new boolean[] {false, true}) {
            Probe x = probe(sentence).type();
            for (int i = 0; i < 6; i++) {
                x.part(result, Probe.VALUE_TYPES[i]).is(i + 1);
            }
            for (int t : Probe.NO_VALUE_TYPES) {
                x.part(result, t).is(-1);
            }
            x.part(result, 127).is(7);
            refused(sentence, -1, p -> p.typeOf(127, 0, 126), p -> p.part(result, 128).part(result, 110));
        }
    }

    private static void twelveParts() {
        String sentence = "-1 when there are 12";
        for (boolean full : new boolean[] {false, true}) {
            Consumer<Probe> twelve = p -> p.typeOf(0, 124).type().times(12, q -> q.part(full, 126));
            probe(sentence).after(twelve).is(12).part(full, 126).is(-1).part(full, 111).is(-1);
            refused(sentence, -1, twelve, p -> p.part(full, 125));
            refused(sentence, -1, twelve.andThen(p -> p.part(!full, 124)), p -> p.part(full, 126));
            // A full row of the one says nothing of the other, nor of the next type.
            probe(sentence).after(twelve).part(full, 125).is(-1).part(!full, 127).is(1).type().is(2).part(full, 127)
                    .is(1);
            probe(sentence).type().times(11, p -> p.part(full, 127)).is(11).part(full, 111).is(12).part(full, 111)
                    .is(-1);
        }
        probe(sentence).type().times(12, p -> p.part(false, 127).part(true, 127)).is(12).part(false, 127).is(-1)
                .part(true, 127).is(-1);
    }

    private static void partInCode() {
        String sentence = "-1 when there is code";
        for (boolean result : new boolean[] {false, true}) {
            refused(sentence, -1, p -> p.typeOf(127, 0, 126).begin(0), p -> p.part(result, 127));
            refused(sentence, -1, p -> p.type().begin(0).step(2, -64).step(0), p -> p.part(result, 127));
            refused(sentence, -1, p -> p.type().constant(127, 0), p -> p.part(result, 127));
            refused(sentence, -1, p -> p.type().begin(0).type(), p -> p.part(result, 127));
            probe(sentence).type().begin(0).is(true).part(result, 127).is(-1).right(11).part(result, 127).is(1);
            probe(sentence).type().begin(0).is(true).fault(1, 26).part(result, 127).is(1);
            probe(sentence).type().constant(127, 0).is(true).fault(1, 11).part(result, 127).is(1);
            probe(sentence).type().constant(127, 0).is(true).push(127).right(11).part(result, 127).is(1);
            probe(sentence).type().begin(1).is(false).constant(0, 0).is(false).part(result, 127).is(1);
        }
    }

    // Promise 4

    private static void numbersOfThings() {
        Probe x = probe("One more: its number (from 0 on, each kind for itself)").type();
        for (int i = 0; i < 3; i++) {
            for (int kind = 0; kind < 6; kind++) {
                x.add(kind, GOOD_A[kind], 0).is(i);
            }
        }
        for (int i = 0; i < 4; i++) {
            int want = i < 3 ? 0 : 12;
            x.begin(0).step(16, i).is(want).begin(0).step(272, i).is(want).begin(0).step(35, i).is(want);
            x.begin(0).step(269, i).is(want).begin(0).step(265, i).is(want).declare(i).is(i < 3);
        }
    }

    private static void functionOfAType() {
        String sentence = "0 a function (a its type): -1 when a is not as said";
        probe(sentence).add(0, 0, 0).is(-1).type().is(0).add(0, 0, 0).is(0).add(0, 1, 0).is(-1);
        Probe x = probe(sentence).typeOf(0, 127).typeOf(0, 126).typeOf(0, 125);
        x.add(0, 2, 0).is(0).add(0, 0, 0).is(1).add(0, 1, 0).is(2);
        x.begin(0).right(16, 0).right(16, 1).right(16, 2).holds(125, 127, 126);
        for (int a : new int[] {-1, 3, 4, 40, 127, 256, 65536, -64, Probe.MIN, Probe.MIN + 1, Probe.MAX}) {
            x.add(0, a, 0).is(-1);
        }
        x.add(0, 2, 0).is(3);
        refused(sentence, -1, p -> p.type().type().add(0, 1, 0), p -> p.add(0, 2, 0));
        refused(sentence, -1, p -> p.type().type().add(0, 1, 0), p -> p.add(0, -1, 0));
    }

    private static void tablesAndElements() {
        String sentence = "1 a table, 4 an element (a its reference type): -1 when a is not as said";
        for (int kind : new int[] {1, 4}) {
            Probe x = probe(sentence).type().add(kind, 112, 0).is(0).add(kind, 111, 0).is(1);
            for (int a : NO_REFERENCE_TYPES) {
                x.add(kind, a, 0).is(-1);
            }
            x.add(kind, 112, 0).is(2);
            refused(sentence, -1, p -> p.type().add(kind, 111, 0), p -> p.add(kind, 127, 0).add(kind, 113, 1));
        }
        Probe types = probe(sentence).type().add(1, 112, 0).add(1, 111, 0).add(4, 112, 0).add(4, 111, 0).begin(0);
        types.push(127).right(37, 0).push(127).right(37, 1).holds(112, 111).right(0);
        types.right(268, 0, 0).right(268, 1, 1).fault(6, 268, 0, 1).begin(0).fault(6, 268, 1, 0);
    }

    private static void globals() {
        String sentence = "3 a global (a its value type, b 1 if it can change): -1 when a is not as said";
        Probe x = probe(sentence).type();
        for (int i = 0; i < 6; i++) {
            x.add(3, Probe.VALUE_TYPES[i], 0).is(2 * i).add(3, Probe.VALUE_TYPES[i], 1).is(2 * i + 1);
        }
        for (int a : Probe.NO_VALUE_TYPES) {
            x.add(3, a, 0).is(-1).add(3, a, 1).is(-1);
        }
        for (int i = 0; i < 6; i++) {
            x.begin(0).right(35, 2 * i).holds(Probe.VALUE_TYPES[i]).right(36, 2 * i + 1).holds();
            x.push(Probe.VALUE_TYPES[i]).fault(8, 36, 2 * i);
        }
        x.add(3, 127, 0).is(12);
        refused(sentence, -1, p -> p.type().add(3, 126, 1), p -> p.add(3, 128, 0).add(3, 110, 1));
    }

    private static void lookedAtForGlobalsAlone() {
        String sentence = "b is looked at for 3 alone: 0 or 1";
        int[] wrong = {-1, 2, 3, 256, 257, 127, Probe.MIN, Probe.MIN + 1, Probe.MAX};
        Probe x = probe(sentence).type();
        for (int b : wrong) {
            x.add(3, 127, b).is(-1);
        }
        x.add(3, 127, 0).is(0).add(3, 127, 1).is(1);
        for (int i = 0; i < wrong.length; i++) {
            for (int kind : new int[] {0, 1, 2, 4, 5}) {
                x.add(kind, GOOD_A[kind], wrong[i]).is(i);
            }
        }
        refused(sentence, -1, p -> p.type().add(3, 127, 0), p -> p.add(3, 127, 2).add(3, 127, -1));
        // A function with b 1 is not DECLARED by that; memories and data take any a.
        probe(sentence).type().add(0, 0, 1).is(0).begin(0).fault(11, 210, 0);
        probe(sentence).add(2, -1, 0).is(0).add(2, Probe.MIN, 0).is(1).add(5, Probe.MAX, 0).is(0).add(5, 113, 0).is(1);
    }

    private static void noSuchKind() {
        String sentence = "-1 when there is no such kind";
        Probe x = probe(sentence).type();
        for (int kind : new int[] {-1, 6, 7, 8, 256, 257, 65538, -256, Probe.MIN, Probe.MIN + 2, Probe.MAX}) {
            for (int a : new int[] {0, 111, 112, 127}) {
                x.add(kind, a, 0).is(-1).add(kind, a, 1).is(-1);
            }
        }
        for (int kind = 0; kind < 6; kind++) {
            x.add(kind, GOOD_A[kind], 0).is(0);
        }
        refused(sentence, -1, p -> p.type().begin(0), p -> p.add(-1, 112, 0));
        refused(sentence, -1, p -> p.type().begin(0), p -> p.add(6, 112, 0));
    }

    private static void fortyOfAKind() {
        String sentence = "-1 when there are 40 of it";
        int[] uses = {16, 272, -1, 35, 269, 265};
        for (int kind = 0; kind < 6; kind++) {
            int k = kind;
            Consumer<Probe> forty = p -> p.type().times(40, q -> q.add(k, GOOD_A[k], 0));
            probe(sentence).type().times(39, q -> q.add(k, GOOD_A[k], 0)).is(38).add(k, GOOD_A[k], 0).is(39);
            Probe x = probe(sentence).after(forty).is(39).add(k, GOOD_A[k], 0).is(-1).add(k, GOOD_A[k], 1).is(-1);
            for (int other = 0; other < 6; other++) {
                x.add(other, GOOD_A[other], 0).is(other == k ? -1 : 0);
            }
            if (uses[k] >= 0) {
                x.begin(0).is(true).right(uses[k], 39).fault(12, uses[k], 40);
            }
            refused(sentence, -1, forty, p -> p.add(k, GOOD_A[k], 0));
        }
        refused(sentence, -1, p -> p.type().times(40, q -> q.add(3, 127, 0)), p -> p.add(3, 126, 1));
    }

    private static void addLeavesCode() {
        Probe x = probe("One more (in code, too, which stays)").typeOf(127).begin(0).local(126, 1).is(true).label(0)
                .is(1);
        for (int kind = 0; kind < 6; kind++) {
            x.add(kind, GOOD_A[kind], 1).is(0);
        }
        x.state().is(1).label(0).is(2).local(126, 1).is(true).look(5).is(3);
        x.right(35, 0).holds(127).right(36, 0).right(63).right(40, 2).holds(127).right(16, 0).holds();
    }

    // Promise 5

    private static void declared() {
        String sentence = "A function is DECLARED: true";
        Probe x = probe(sentence).type().add(0, 0, 0).begin(0).fault(11, 210, 0);
        x.declare(0).is(true).begin(0).right(210, 0).holds(112).declare(0).is(true).right(210, 0).holds(112, 112);
        // In code, too, which stays.
        x.add(0, 0, 0).is(1).declare(1).is(true).state().is(1).right(210, 1).holds(112, 112, 112);
        Twins.alike(due, sentence, p -> p.type().add(0, 0, 0).declare(0), p -> p.type().add(0, 0, 0).declare(0).declare(0));
        // A function that comes later is not.
        x.add(0, 0, 0).is(2).fault(11, 210, 2);
    }

    private static void declaredAlone() {
        String sentence = "A function is DECLARED (the others are not)";
        for (int declared : new int[] {0, 1, 20, 38, 39}) {
            Probe x = probe(sentence).type().times(40, p -> p.add(0, 0, 0)).declare(declared).is(true);
            for (int i = 0; i < 40; i++) {
                x.begin(0).step(210, i).is(i == declared ? 0 : 11);
            }
        }
        // Globals that can change are another kind's first ones.
        probe(sentence).type().add(0, 0, 0).add(3, 127, 1).begin(0).fault(11, 210, 0);
        probe(sentence).type().add(0, 0, 0).add(3, 127, 0).declare(0).is(true).begin(0).fault(8, 36, 0);
    }

    private static void declareNone() {
        String sentence = "false when there is none";
        probe(sentence).declare(0).is(false).type().declare(0).is(false).add(1, 112, 0).is(0).declare(0).is(false)
                .add(0, 0, 0).is(0).begin(0).fault(11, 210, 0);
        int[] wrong = {-1, 2, 3, 40, 256, 65536, -256, Probe.MIN, Probe.MIN + 1, Probe.MAX};
        Probe x = probe(sentence).type().add(0, 0, 0).add(0, 0, 0);
        for (int function : wrong) {
            x.declare(function).is(false);
        }
        x.begin(0).fault(11, 210, 0).begin(0).fault(11, 210, 1).declare(1).is(true).declare(0).is(true);
        for (int function : new int[] {-1, 2, Probe.MIN}) {
            refused(sentence, 0, p -> p.type().add(0, 0, 0).add(0, 0, 0).declare(1), p -> p.declare(function));
        }
        refused(sentence, 0, p -> p.type().times(40, q -> q.add(0, 0, 0)), p -> p.declare(40));
        refused(sentence, 0, p -> p.type().add(0, 0, 0).begin(0).step(65), p -> p.declare(1));
        // What was refused is not DECLARED once there is one.
        probe(sentence).type().declare(0).is(false).add(0, 0, 0).is(0).begin(0).fault(11, 210, 0);
    }
}
