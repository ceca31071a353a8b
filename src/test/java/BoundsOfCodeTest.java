import java.util.List;
import java.util.function.Consumer;

/** Promises 6 to 9 and 11 to 13, sentence by sentence: the edges, and what a refused call leaves as it was. */
public final class BoundsOfCodeTest {
    private static final Due due = new Due("BoundsOfCodeTest");
    private static final long MOST_LOCALS_OF_A_CALL = 4294967295L;

    /** Some of everything: two function types, the second one w32 w64 > f32, and three globals. */
    private static final Consumer<Probe> THINGS = p -> p.type().typeOf(127, 126, 0, 125).add(0, 1, 0).declare(0)
            .add(1, 112, 0).add(2, 0, 0).add(3, 127, 0).add(3, 126, 0).add(3, 125, 1).add(5, 0, 0);
    private static final Consumer<Probe> AT_THE_FIRST = THINGS.andThen(p -> p.begin(1).local(124, 3).label(0).label(7));
    private static final Consumer<Probe> IN_A_BODY = AT_THE_FIRST.andThen(p -> p.step(65).step(66).step(2, 1).step(65)
            .step(2, -64).step(0).step(27).label(1).label(2));
    private static final Consumer<Probe> IN_A_CONSTANT = THINGS.andThen(p -> p.constant(126, 2).step(35, 1).label(0));
    private static final Consumer<Probe> BEHIND_THE_END = THINGS.andThen(p -> p.begin(0).local(127, 2).label(0).step(11));
    private static final Consumer<Probe> BEHIND_A_CONSTANT = THINGS.andThen(p -> p.constant(127, 0).step(65).step(11));
    private static final Consumer<Probe> BEHIND_A_FAULT = THINGS.andThen(p -> p.begin(1).label(0).step(65).step(6));
    private static final List<Consumer<Probe>> PASTS = List.of(
            p -> { }, THINGS, AT_THE_FIRST, IN_A_BODY, IN_A_CONSTANT, BEHIND_THE_END, BEHIND_A_CONSTANT, BEHIND_A_FAULT);
    private static final List<Consumer<Probe>> PASTS_WITHOUT_CODE = List.of(
            p -> { }, THINGS, BEHIND_THE_END, BEHIND_A_CONSTANT, BEHIND_A_FAULT);

    public static void main(String[] args) {
        bodyBegins();
        bodyInPlaceOfOtherCode();
        noSuchType();

        constantBegins();
        constantInPlaceOfOtherCode();
        firstSoManyGlobals();
        noSuchValueType();
        globalsBelowNone();

        moreLocals();
        numberWithoutSign();
        localsOfAllSizes();
        localWithoutBody();
        localBehindAnInstruction();
        localOfNoValueType();
        fortyCallsOfLocal();

        labelsCounted();
        emptyWhenCodeBegins();
        emptyBehindEachInstruction();
        labelWithoutCode();
        twentyLabels();

        statesOfCode();
        noOtherSince();

        howManyOperands();
        howManyBlocks();
        heights();
        lives();
        begunBy();
        howManyLocals();
        lookWithoutCode();
        lookForOthers();

        operandsFromTheEnd();
        operandUnknown();
        noOperand();
        due.finish();
    }

    private static Probe probe(String sentence) {
        return new Probe(due, sentence);
    }

    private static void refused(String sentence, long want, Consumer<Probe> past, Consumer<Probe> call) {
        Twins.refused(due, sentence, want, past, call);
    }

    // Promise 6

    private static void bodyBegins() {
        String sentence = "The body of a function type begins: true";
        Probe x = probe(sentence).after(THINGS).begin(1).is(true).state().is(1).holds();
        x.look(1).is(1).look(2).is(0).look(3).is(1).look(4).is(-1).look(5).is(2).push(125).right(11).state().is(2);
        x.begin(0).is(true).look(5).is(0).right(11).state().is(2);
        x = probe(sentence).times(40, Probe::type).begin(39).is(true).begin(0).is(true).right(11);
    }

    private static void bodyInPlaceOfOtherCode() {
        for (Consumer<Probe> past : List.of(AT_THE_FIRST, IN_A_BODY, IN_A_CONSTANT, BEHIND_THE_END, BEHIND_A_FAULT)) {
            for (int type = 0; type <= 1; type++) {
                int body = type;
                Twins.alike(due, "in place of other code", THINGS.andThen(p -> p.begin(body)), past.andThen(p -> p.begin(body)));
            }
        }
        // A full row, 60 blocks and 40 calls of local are gone as well.
        Consumer<Probe> full = p -> p.times(40, q -> q.local(126, -1)).times(59, q -> q.step(3, -64))
                .times(200, q -> q.step(65))
                .times(20, q -> q.label(0));
        probe("in place of other code").after(THINGS).begin(0).after(full).begin(0).is(true).holds().look(1).is(1)
                .look(5).is(0)
                .local(127, 1).is(true).label(0).is(1).push(127).right(2, -64).look(1).is(2).look(2).is(1);
    }

    private static void noSuchType() {
        String sentence = "false, doing nothing, when there is no such type";
        probe(sentence).begin(0).is(false).type().begin(0).is(true).begin(1).is(false).begin(-1).is(false);
        int[] wrong = {2, 3, 40, 127, 256, 65536, -1, -2, -64, -128, Probe.MIN, Probe.MIN + 1, Probe.MAX};
        Probe x = probe(sentence).after(IN_A_BODY);
        for (int type : wrong) {
            x.begin(type).is(false).look(1).is(3).look(0).is(4).state().is(1);
        }
        for (Consumer<Probe> past : PASTS) {
            refused(sentence, 0, past, p -> p.begin(-1).begin(Probe.MIN).begin(2));
        }
        Probe most = probe(sentence).times(40, Probe::type).begin(40).is(false).begin(41).is(false).state().is(0);
        most.begin(39).is(true);
    }

    // Promise 7

    private static void constantBegins() {
        String sentence = "A CONSTANT for a value type begins: true";
        for (int t : Probe.VALUE_TYPES) {
            Probe x = probe(sentence).constant(t, 0).is(true).state().is(1).holds();
            x.look(1).is(1).look(2).is(0).look(3).is(1).look(4).is(-1).look(5).is(0);
            x.push(t).right(11).state().is(2);
            for (int other : Probe.VALUE_TYPES) {
                x.constant(t, 0).is(true).push(other).step(11).is(other == t ? 0 : 1);
            }
            x.constant(t, 0).is(true).fault(1, 11).constant(t, 0).push(t, t).fault(3, 11);
        }
    }

    private static void constantInPlaceOfOtherCode() {
        String sentence = "A CONSTANT begins (in place of other code)";
        for (Consumer<Probe> past : List.of(AT_THE_FIRST, IN_A_BODY, IN_A_CONSTANT, BEHIND_THE_END, BEHIND_A_FAULT)) {
            Twins.alike(due, sentence, THINGS.andThen(p -> p.constant(125, 1)), past.andThen(p -> p.constant(125, 1)));
        }
        // A body behind a CONSTANT is a body again.
        probe(sentence).type().constant(127, 0).is(true).begin(0).is(true).right(1).right(0);
        probe(sentence).type().begin(0).is(true).constant(127, 0).is(true).fault(14, 1);
    }

    private static void firstSoManyGlobals() {
        String sentence = "which may see the first so many globals";
        Consumer<Probe> globals = p -> p.times(40, q -> q.add(3, 127, 0));
        for (int many : new int[] {0, 1, 2, 39, 40, 41, Probe.MAX}) {
            for (int global : new int[] {0, 1, 2, 38, 39, 40, Probe.MAX, -1, Probe.MIN}) {
                boolean seen = global >= 0 && global < many && global < 40;
                probe(sentence).after(globals).constant(127, many).is(true).step(35, global).is(seen ? 0 : 14);
            }
        }
        probe(sentence).constant(127, Probe.MAX).is(true).fault(14, 35, 0);
        // A body sees all of them, whatever the CONSTANT before it saw.
        probe(sentence).after(globals).type().constant(127, 1).is(true).begin(0).is(true).right(35, 39);
        probe(sentence).after(globals).constant(127, 40).constant(127, 1).is(true).right(35, 0).fault(14, 35, 1);
    }

    private static void noSuchValueType() {
        String sentence = "false, doing nothing, when there is no such type";
        Probe x = probe(sentence).after(THINGS);
        for (int t : Probe.NO_VALUE_TYPES) {
            x.constant(t, 0).is(false).state().is(0);
        }
        for (Consumer<Probe> past : PASTS) {
            refused(sentence, 0, past, p -> p.constant(128, 3).constant(-1, 0).constant(1, 0).constant(0, 1));
        }
    }

    private static void globalsBelowNone() {
        String sentence = "false, doing nothing, when globals is below 0";
        Probe x = probe(sentence).after(THINGS);
        for (int t : Probe.VALUE_TYPES) {
            x.constant(t, -1).is(false).constant(t, -2).is(false).constant(t, Probe.MIN).is(false).state().is(0);
            x.constant(t, 0).is(true).fault(14, 1).constant(t, Probe.MAX).is(true).fault(14, 1);
        }
        for (Consumer<Probe> past : PASTS) {
            refused(sentence, 0, past, p -> p.constant(126, -1).constant(127, Probe.MIN));
        }
        probe(sentence).constant(1, -1).is(false).state().is(0);
    }

    // Promise 8

    private static void moreLocals() {
        String sentence = "A body has n more locals of a value type: true";
        Probe x = probe(sentence).after(THINGS).begin(1).is(true).look(5).is(2);
        x.local(124, 0).is(true).look(5).is(2).local(112, 1).is(true).look(5).is(3).local(111, 2).is(true).look(5)
                .is(5);
        x.right(32, 0).right(32, 1).right(32, 2).right(32, 3).right(32, 4).holds(127, 126, 112, 111, 111)
                .fault(12, 32, 5);
        x.begin(0).is(true).local(125, 0).is(true).look(5).is(0).fault(12, 32, 0);
        x.begin(0).is(true).local(125, 1).is(true).look(5).is(1).right(32, 0).holds(125).fault(12, 32, 1);
        for (int t : Probe.VALUE_TYPES) {
            x.begin(0).local(t, 1).is(true).right(32, 0).holds(t).right(34, 0).right(33, 0).holds();
        }
    }

    private static void numberWithoutSign() {
        String sentence = "n: 32 bits without sign";
        int[] numbers = {0, 1, Probe.MAX - 1, Probe.MAX, Probe.MIN, Probe.MIN + 1, -2, -1};
        for (int n : numbers) {
            long count = n & MOST_LOCALS_OF_A_CALL;
            Probe x = probe(sentence).type().begin(0).local(126, n).is(true).look(5).is(count);
            if (count > 0) {
                x.right(32, 0).right(32, (int) (count - 1)).holds(126, 126);
            }
            x.fault(12, 32, n);
        }
        // One call more goes beyond 32 bits: the last number that can be named is still one of them.
        Probe x = probe(sentence).type().begin(0).local(126, -1).is(true).local(125, 1).is(true).look(5).is(1L << 32);
        x.right(32, -2).right(32, -1).holds(126, 125);
        x = probe(sentence).type().begin(0).local(126, -1).is(true).local(125, -1).is(true).look(5).is((1L << 33) - 2);
        x.right(32, -2).right(32, -1).right(32, 0).holds(126, 125, 126);
        x = probe(sentence).type().begin(0).local(126, Probe.MIN).is(true).local(125, Probe.MIN).is(true).look(5)
                .is(1L << 32);
        x.right(32, Probe.MAX).right(32, Probe.MIN).right(32, -1).holds(126, 125, 125);
        x = probe(sentence).typeOf(124).begin(0).local(126, Probe.MAX).is(true).look(5).is(1L << 31);
        x.right(32, 0).right(32, 1).right(32, Probe.MAX).holds(124, 126, 126).fault(12, 32, Probe.MIN);
    }

    private static void localsOfAllSizes() {
        String sentence = "A body has n more locals, 40 times as many as there may be";
        Probe x = probe(sentence).type().times(12, p -> p.part(false, 111)).begin(0);
        for (int i = 1; i <= 40; i++) {
            x.local(Probe.VALUE_TYPES[i % 6], -1).is(true).look(5).is(12 + i * MOST_LOCALS_OF_A_CALL);
        }
        x.local(127, -1).is(false).look(5).is(12 + 40 * MOST_LOCALS_OF_A_CALL);
        x.right(32, 11).right(32, 12).right(32, -1).holds(111, 126, 126);
        // And as few: a call of none is followed by one of the next number.
        x = probe(sentence).type().begin(0).times(38, p -> p.local(127, 0)).local(125, 1).is(true).local(124, 1)
                .is(true);
        x.look(5).is(2).right(32, 0).right(32, 1).holds(125, 124).fault(12, 32, 2);
    }

    private static void localWithoutBody() {
        String sentence = "False when there is no body";
        for (Consumer<Probe> past : PASTS_WITHOUT_CODE) {
            refused(sentence, 0, past, p -> p.local(127, 1));
        }
        refused(sentence, 0, THINGS.andThen(p -> p.constant(127, 0)), p -> p.local(127, 1));
        refused(sentence, 0, IN_A_CONSTANT, p -> p.local(127, 0));
        // What was refused in between counts for no body that begins.
        probe(sentence).type().times(41, p -> p.local(127, 1)).is(false).begin(0).look(5).is(0).local(127, 1).is(true);
    }

    private static void localBehindAnInstruction() {
        String sentence = "False when an instruction has come";
        Consumer<Probe> body = p -> p.typeOf(127, 0, 127).begin(0);
        for (int n : new int[] {0, 1, 3, 65, 15}) {
            refused(sentence, 0, body.andThen(p -> p.local(126, 1).step(0).step(n, n == 3 ? -64 : 0)), p -> p.local(127, 1));
        }
        refused(sentence, 0, body.andThen(p -> p.step(1)), p -> p.local(127, 0));
        probe(sentence).after(body).local(127, 1).is(true).right(1).local(127, 1).is(false).look(5).is(2);
        probe(sentence).after(body).right(3, -64).right(11).local(127, 1).is(false).look(1).is(1);
        // What is no instruction, or none of this code, leaves it open.
        probe(sentence).after(body).label(0).look(0).operand(0).state().type().is(1).add(2, 0, 0).begin(9).is(false)
                .constant(9, 0).is(false).local(128, 1).is(false).local(127, 1).is(true).look(5).is(2);
        probe(sentence).after(body).right(1).local(127, 1).is(false).begin(0).is(true).local(127, 1).is(true).look(5)
                .is(2);
        probe(sentence).after(body).fault(13, 6).local(127, 1).is(false).begin(0).is(true).local(127, 1).is(true);
    }

    private static void localOfNoValueType() {
        String sentence = "False when t is no value type";
        Probe x = probe(sentence).type().begin(0);
        for (int t : Probe.NO_VALUE_TYPES) {
            x.local(t, 1).is(false).look(5).is(0);
        }
        for (int t : Probe.VALUE_TYPES) {
            x.local(t, 1).is(true);
        }
        x.look(5).is(6);
        refused(sentence, 0, AT_THE_FIRST, p -> p.local(128, 1).local(0, -1).local(110, 2));
    }

    private static void fortyCallsOfLocal() {
        String sentence = "False when 40 such calls were true for this code";
        for (int n : new int[] {0, 1, -1}) {
            Consumer<Probe> forty = p -> p.type().begin(0).times(40, q -> q.local(126, n));
            probe(sentence).type().begin(0).times(39, q -> q.local(126, n)).is(true).local(126, n).is(true)
                    .local(126, n).is(false).local(126, 0).is(false);
            refused(sentence, 0, forty, p -> p.local(127, 1));
            refused(sentence, 0, forty.andThen(p -> p.label(0)), p -> p.local(125, 0));
        }
        // Those that were false don't count, nor do parameters, nor those for other code.
        probe(sentence).type().begin(0).times(45, p -> p.local(128, 1)).is(false).times(40, p -> p.local(127, 1))
                .is(true)
                .local(127, 1).is(false).look(5).is(40);
        Probe x = probe(sentence).type().times(12, p -> p.part(false, 124)).begin(0).times(40, p -> p.local(127, 1))
                .is(true);
        x.local(127, 1).is(false).look(5).is(52).right(32, 51).right(32, 11).holds(127, 124).fault(12, 32, 52);
        x.begin(0).is(true).look(5).is(12).times(40, p -> p.local(126, 1)).is(true).local(126, 1).is(false).look(5)
                .is(52);
    }

    // Promise 9

    private static void labelsCounted() {
        String sentence = "A label comes to the row for 14: how many there are";
        Probe x = probe(sentence).type().begin(0);
        int[] labels = {0, 1, -1, Probe.MIN, Probe.MAX, 60, 7};
        for (int i = 0; i < labels.length; i++) {
            x.label(labels[i]).is(i + 1);
        }
        x.right(1);
        for (int i = 1; i <= 20; i++) {
            x.label(0).is(i);
        }
        // The first, one between and the last of 20 are there for 14: each alone is one that there is not.
        for (int missing : new int[] {0, 10, 19}) {
            x.begin(0).right(0);
            for (int i = 0; i < 20; i++) {
                x.label(i == missing ? 1 : 0).is(i + 1);
            }
            x.fault(12, 14);
        }
        x.begin(0).right(0).times(20, p -> p.label(0)).is(20).right(14);
    }

    private static void emptyWhenCodeBegins() {
        String sentence = "which is empty when code begins";
        Consumer<Probe> row = p -> p.type().begin(0).times(20, q -> q.label(9));
        probe(sentence).after(row).begin(0).is(true).label(0).is(1).right(0).right(14);
        probe(sentence).after(row).begin(0).is(true).step(0).step(14).is(0);
        probe(sentence).after(row).constant(127, 0).is(true).label(0).is(1);
        probe(sentence).after(row).constant(127, 0).is(true).times(20, p -> p.label(9)).is(20).begin(0).is(true)
                .label(0).is(1);
        probe(sentence).after(row).fault(13, 6).begin(0).is(true).label(0).is(1);
        probe(sentence).after(row).right(11).begin(0).is(true).label(0).is(1);
        // A call that was refused begins no code, and the row stays.
        probe(sentence).type().begin(0).label(9).is(1).begin(1).is(false).constant(1, 0).is(false).constant(127, -1)
                .is(false)
                .label(0).is(2);
    }

    private static void emptyBehindEachInstruction() {
        String sentence = "which is empty behind each instruction";
        int[] instructions = {0, 1, 2, 3, 12, 13, 14, 15, 16, 26, 27, 28, 32, 33, 34, 35, 40, 63, 65, 69, 106, 208, 209, 265};
        Probe x = probe(sentence).typeOf(127).add(0, 0, 0).add(2, 0, 0).add(3, 127, 0).add(5, 0, 0);
        for (int n : instructions) {
            x.begin(0).right(0).label(0).is(1).label(0).is(2);
            x.right(n, n == 28 ? 127 : n == 208 ? 112 : n == 2 || n == 3 ? -64 : 0).label(0).is(1);
        }
        x.begin(0).push(127).right(4, -64).label(0).is(1).right(5).label(0).is(1).right(11).label(0).is(1);
        x.constant(127, 0).label(0).is(1).push(127).label(0).is(1);
        // So 14 doesn't see labels that came ahead of another instruction.
        x.begin(0).label(9).is(1).push(127).right(14);
    }

    private static void labelWithoutCode() {
        String sentence = "-1 when there is no code";
        for (Consumer<Probe> past : PASTS_WITHOUT_CODE) {
            refused(sentence, -1, past, p -> p.label(0));
            refused(sentence, -1, past, p -> p.label(-1));
        }
        probe(sentence).type().label(0).is(-1).begin(0).is(true).label(0).is(1);
        probe(sentence).after(BEHIND_THE_END).label(0).is(-1).begin(0).is(true).label(0).is(1);
        probe(sentence).constant(127, 0).is(true).label(0).is(1);
    }

    private static void twentyLabels() {
        String sentence = "-1 when there are 20";
        Consumer<Probe> twenty = p -> p.type().begin(0).step(0).times(20, q -> q.label(0));
        probe(sentence).type().begin(0).times(19, q -> q.label(0)).is(19).label(0).is(20).label(0).is(-1).label(0)
                .is(-1);
        refused(sentence, -1, twenty, p -> p.label(0));
        refused(sentence, -1, twenty, p -> p.label(9).label(-1));
        // The one that was refused is not there for 14, and the 20 are.
        probe(sentence).after(twenty).label(9).is(-1).right(14);
        probe(sentence).after(twenty).label(0).is(-1).right(1).label(0).is(1);
        refused(sentence, -1, p -> p.constant(127, 0).times(20, q -> q.label(5)), p -> p.label(5));
    }

    // Promise 11

    private static void statesOfCode() {
        String sentence = "Whether there is code: 0 none, 1 some, 2 the latest one has come to its end";
        probe(sentence).state().is(0).type().state().is(0).add(2, 0, 0).state().is(0).begin(0).state().is(1);
        Probe x = probe(sentence).type().begin(0).state().is(1).right(2, -64).state().is(1).right(11).state().is(1);
        x.right(0).state().is(1).right(11).state().is(2).state().is(2);
        probe(sentence).type().begin(0).fault(2, 5).state().is(0);
        probe(sentence).constant(127, 0).state().is(1).push(127).state().is(1).right(11).state().is(2);
        probe(sentence).constant(127, 0).fault(1, 11).state().is(0);
        for (int fault = 0; fault < 3; fault++) {
            x.begin(0).state().is(1).step(new int[] {6, 26, 12}[fault], 1).is(new int[] {13, 1, 12}[fault]).state()
                    .is(0);
        }
        for (Consumer<Probe> past : PASTS) {
            Twins.alike(due, "state() asks alone", past, past.andThen(p -> p.state().state()));
        }
    }

    private static void noOtherSince() {
        String sentence = "2 the latest one has come to its end (and there was no other since)";
        // Neither what is refused nor what is no code makes it another.
        probe(sentence).after(BEHIND_THE_END).state().is(2).begin(9).is(false).constant(1, 0).is(false)
                .constant(127, -1).is(false)
                .step(1).is(-1).step(11).is(-1).step(6).is(-1).label(0).is(-1).local(127, 1).is(false).look(0).is(-1)
                .operand(0).is(-1).type().is(2).part(false, 127).is(1).add(2, 0, 0).is(1).declare(0).is(true).state()
                .is(2);
        probe(sentence).after(BEHIND_THE_END).begin(0).is(true).state().is(1).fault(1, 26).state().is(0);
        probe(sentence).after(BEHIND_THE_END).constant(127, 0).is(true).state().is(1).fault(1, 11).state().is(0);
        probe(sentence).after(BEHIND_THE_END).begin(0).is(true).right(11).state().is(2);
        probe(sentence).after(BEHIND_A_FAULT).state().is(0).begin(0).is(true).right(11).state().is(2).begin(0).state()
                .is(1);
    }

    // Promise 12

    private static void howManyOperands() {
        Probe x = probe("0 how many operands").type().begin(0).look(0).is(0);
        for (int i = 1; i <= 200; i++) {
            x.push(127).look(0).is(i);
        }
        x.right(26).look(0).is(199).right(106).look(0).is(198).right(2, -64).look(0).is(198).right(0).look(0).is(198);
        x.right(11).right(0).look(0).is(0);
    }

    private static void howManyBlocks() {
        Probe x = probe("1 how many blocks").type().begin(0).look(1).is(1);
        for (int i = 2; i <= 60; i++) {
            x.right(2 + i % 2, -64).look(1).is(i);
        }
        for (int i = 59; i >= 1; i--) {
            x.right(11).look(1).is(i);
        }
        x.right(11).look(1).is(-1).begin(0).push(127).right(4, -64).look(1).is(2).right(5).look(1).is(2);
    }

    private static void heights() {
        String sentence = "2 the innermost block's HEIGHT";
        Probe x = probe(sentence).typeOf(127, 126, 0, 127, 126).begin(0).look(2).is(0).push(127, 126).look(2).is(0);
        x.right(2, -64).look(2).is(2).right(3, -64).look(2).is(2).right(11).right(11).look(2).is(0);
        x.right(3, 0).look(2).is(0).look(0).is(2).push(125, 127, 126).right(2, 0).look(2).is(3).look(0).is(5);
        x.right(0).look(2).is(3).look(0).is(3).right(11).look(2).is(0).look(0).is(5);
        x = probe(sentence).type().begin(0).times(200, p -> p.step(65)).is(0).right(2, -64).look(2).is(200);
        x = probe(sentence).type().times(12, p -> p.part(false, 127)).begin(0).times(12, p -> p.step(65)).right(3, 0)
                .look(2).is(0);
        // 4's own w32 is not there any more when the block begins; 5 leaves the height as it was.
        x = probe(sentence).typeOf(126).begin(0).push(125, 126, 127).right(4, 0).look(2).is(1).right(26).right(5)
                .look(2).is(1);
    }

    private static void lives() {
        String sentence = "3 1 if it is LIVE, else 0";
        Probe x = probe(sentence).type().begin(0).look(3).is(1).right(2, -64).look(3).is(1).right(0).look(3).is(0);
        x.right(3, -64).look(3).is(1).right(11).look(3).is(0).right(1).look(3).is(0).push(127).look(3).is(0);
        x.right(26).right(11).look(3).is(1).right(12, 0).look(3).is(0).begin(0).look(3).is(1).right(15).look(3).is(0);
        x.begin(0).push(127).right(13, 0).look(3).is(1).push(127).right(14, 0).look(3).is(0);
        x.begin(0).push(127).right(4, -64).right(0).look(3).is(0).right(5).look(3).is(1).right(0).look(3).is(0);
        x.right(11).look(3).is(1);
    }

    private static void begunBy() {
        String sentence = "4 what it was begun by (-1 for the outermost one)";
        Probe x = probe(sentence).type().begin(0).look(4).is(-1).right(2, -64).look(4).is(2).right(3, -64).look(4)
                .is(3);
        x.push(127).right(4, -64).look(4).is(4).right(2, -64).look(4).is(2).right(11).look(4).is(4).right(5).look(4)
                .is(5);
        x.right(2, -64).right(11).look(4).is(5).right(11).look(4).is(3).right(11).look(4).is(2).right(11).look(4)
                .is(-1);
        probe(sentence).constant(127, 0).look(4).is(-1).look(1).is(1).push(127).look(4).is(-1);
    }

    private static void howManyLocals() {
        String sentence = "5 how many locals (parameters, too)";
        probe(sentence).type().begin(0).look(5).is(0).local(127, 0).look(5).is(0).local(127, 5).look(5).is(5).right(1)
                .look(5).is(5);
        probe(sentence).typeOf(127).begin(0).look(5).is(1).local(127, -1).look(5).is(1L << 32).local(127, -1)
                .look(5).is((1L << 33) - 1);
        probe(sentence).type().times(12, p -> p.part(false, 111)).begin(0).look(5).is(12).right(2, -64).look(5).is(12);
        probe(sentence).type().times(12, p -> p.part(true, 111)).begin(0).look(5).is(0).constant(127, 0).look(5).is(0);
        probe(sentence).typeOf(127).begin(0).local(127, 3).constant(127, 0).is(true).look(5).is(0);
    }

    private static void lookWithoutCode() {
        String sentence = "look: -1 when there is none";
        for (Consumer<Probe> past : PASTS_WITHOUT_CODE) {
            Probe x = probe(sentence).after(past);
            for (int what = 0; what <= 5; what++) {
                x.look(what).is(-1);
            }
            refused(sentence, -1, past, p -> p.look(0));
        }
    }

    private static void lookForOthers() {
        String sentence = "look: -1 for others";
        for (Consumer<Probe> past : List.of(AT_THE_FIRST, IN_A_BODY, IN_A_CONSTANT, BEHIND_THE_END)) {
            Probe x = probe(sentence).after(past);
            for (int what : new int[] {-1, 6, 7, 256, 260, 65536, -256, Probe.MIN, Probe.MIN + 1, Probe.MAX}) {
                x.look(what).is(-1);
            }
            refused(sentence, -1, past, p -> p.look(-1));
            refused(sentence, -1, past, p -> p.look(6));
        }
        for (int what = 0; what <= 5; what++) {
            int w = what;
            Twins.alike(due, "look asks alone", IN_A_BODY, IN_A_BODY.andThen(p -> p.look(w)));
        }
    }

    // Promise 13

    private static void operandsFromTheEnd() {
        String sentence = "The k-th operand from the end: its type";
        Probe x = probe(sentence).type().begin(0).push(Probe.VALUE_TYPES);
        for (int k = 0; k < 6; k++) {
            x.operand(k).is(Probe.VALUE_TYPES[5 - k]);
        }
        // Those below the innermost block's height are operands, too.
        x.right(2, -64).operand(0).is(111).operand(5).is(127).right(0).operand(0).is(111).operand(5).is(127)
                .operand(6).is(-1);
        x = probe(sentence).type().begin(0).push(124).times(198, p -> p.step(65)).push(111);
        x.operand(0).is(111).operand(1).is(127).operand(198).is(127).operand(199).is(124).operand(200).is(-1);
        Twins.alike(due, "operand asks alone", IN_A_BODY, IN_A_BODY.andThen(p -> p.operand(0).operand(1).operand(3)));
        probe(sentence).constant(127, 0).push(112, 125).operand(0).is(125).operand(1).is(112);
    }

    private static void operandUnknown() {
        Probe x = probe("0 for UNKNOWN").type().begin(0).push(126).right(2, -64).right(0).right(27).holds(126, 0);
        x.right(27).operand(0).is(0).operand(1).is(126).operand(2).is(-1).push(125).operand(0).is(125).operand(1).is(0);
        x.right(26).right(26).operand(0).is(126);
    }

    private static void noOperand() {
        String sentence = "operand: -1 when there is none";
        Probe x = probe(sentence).type().begin(0).operand(0).is(-1).push(126, 127).operand(1).is(126).operand(2).is(-1);
        for (int k : new int[] {-1, -2, 3, 200, 256, 65536, Probe.MIN, Probe.MIN + 1, Probe.MAX}) {
            x.operand(k).is(-1);
        }
        // What went is not there any more.
        x.right(26).operand(0).is(126).operand(1).is(-1).right(26).operand(0).is(-1).right(0).operand(0).is(-1);
        for (Consumer<Probe> past : PASTS_WITHOUT_CODE) {
            probe(sentence).after(past).operand(0).is(-1).operand(1).is(-1).operand(-1).is(-1);
            refused(sentence, -1, past, p -> p.operand(0));
        }
        refused(sentence, -1, IN_A_BODY, p -> p.operand(-1));
        refused(sentence, -1, IN_A_BODY, p -> p.operand(4));
        Consumer<Probe> ended = p -> p.typeOf(0, 127).begin(0).step(65).step(11);
        probe(sentence).after(ended).state().is(2).operand(0).is(-1).look(0).is(-1);
    }
}
