import java.util.List;
import java.util.function.Consumer;

/**
 * Two objects with two pasts that ought to leave the same: whatever can be asked of them must be answered
 * alike. So a refused call is seen to leave all as it was, also what no call tells at once (how long the row
 * for 14 is, which functions are DECLARED, how many calls of local were true).
 */
final class Twins {
    /** Each is asked on a new pair, since most of them change what there is. */
    private static final List<Consumer<Probe>> QUESTIONS = List.of(
            Twins::askForCode, Twins::askForRow, Twins::askForRowsLabels, Twins::askForLocals,
            Twins::askForMoreLocals, Twins::askForVisibleGlobals, Twins::askForTheEnd, Twins::askForTypeCount,
            Twins::askForCounts, Twins::askForParts, Twins::askForTypes, Twins::askForFunctions,
            Twins::askForTables, Twins::askForGlobals, Twins::askForElementsAndData);
    /** No turn of a question's loop needs more calls than these. */
    private static final int CALLS_OF_A_TURN = 64;

    private Twins() {
    }

    /** The call answers as said, and leaves all as it was. */
    static void refused(Due due, String sentence, long want, Consumer<Probe> past, Consumer<Probe> call) {
        new Probe(due, sentence).after(past).after(call).is(want);
        alike(due, sentence, past, past.andThen(call));
    }

    static void alike(Due due, String sentence, Consumer<Probe> onePast, Consumer<Probe> otherPast) {
        for (int i = 0; i < QUESTIONS.size(); i++) {
            Probe one = new Probe(due, sentence).after(onePast);
            Probe other = new Probe(due, sentence).after(otherPast);
            int before = Math.max(one.answers.size(), other.answers.size());
            List<Long> first = answersOf(one, before, QUESTIONS.get(i));
            List<Long> second = answersOf(other, before, QUESTIONS.get(i));
            due.is("'" + sentence + "': question " + i + " is answered alike", first.equals(second), true);
        }
    }

    /** The calls before are made as many as the other one's, so that both have as many left. */
    private static List<Long> answersOf(Probe x, int before, Consumer<Probe> question) {
        while (x.answers.size() < before) {
            x.state();
        }
        question.accept(x);
        return x.answers.subList(before, x.answers.size());
    }

    private static boolean hasTurn(Probe x) {
        return x.callsLeft() >= CALLS_OF_A_TURN;
    }

    private static void askForCode(Probe x) {
        x.state();
        for (int what = 0; what <= 5; what++) {
            x.look(what);
        }
        for (int k = 0; k < 210 && x.operand(k).answer() >= 0; k++) {
            if (!hasTurn(x)) {
                return;
            }
        }
    }

    private static void askForRow(Probe x) {
        for (int i = 0; i < 22; i++) {
            x.label(0);
        }
    }

    private static void askForRowsLabels(Probe x) {
        x.step(0).step(14).state().look(0).look(3);
    }

    private static void askForLocals(Probe x) {
        x.look(5).step(0);
        for (int i = 0; i < 60 && hasTurn(x) && x.step(32, i).answer() == 0; i++) {
            x.operand(0);
        }
    }

    private static void askForMoreLocals(Probe x) {
        for (int i = 0; i < 42; i++) {
            x.local(Probe.F32, 1).look(5);
        }
    }

    private static void askForVisibleGlobals(Probe x) {
        for (int i = 0; i < 41 && hasTurn(x) && x.step(35, i).answer() == 0; i++) {
            x.operand(0);
        }
    }

    /** A DEAD block has what its end takes: so all blocks can be ended, and what they give be seen. */
    private static void askForTheEnd(Probe x) {
        for (int i = 0; i < 61 && hasTurn(x) && x.state().answer() == 1; i++) {
            x.look(1).look(2).look(3).look(4).step(0).look(0).step(11).look(0).operand(0).operand(1);
        }
        x.state();
    }

    private static void askForTypeCount(Probe x) {
        for (int i = 0; i < 41 && hasTurn(x); i++) {
            x.type();
        }
        x.state().look(0).look(1);
    }

    private static void askForCounts(Probe x) {
        int[] a = {0, Probe.FUNC, 0, Probe.W32, Probe.OUT, 0};
        for (int i = 0; i < 41 && hasTurn(x); i++) {
            for (int kind = 0; kind < 6; kind++) {
                x.add(kind, a[kind], 1);
            }
        }
    }

    private static void askForParts(Probe x) {
        x.step(-1);
        for (int i = 0; i < 13; i++) {
            x.part(false, Probe.F64).part(true, Probe.F32);
        }
    }

    /** All parameters and results, the latest function type first. */
    private static void askForTypes(Probe x) {
        int count = 0;
        while (count < 41 && x.begin(count).answer() == 1) {
            count++;
        }
        for (int type = count - 1; type >= 0 && hasTurn(x); type--) {
            x.begin(type).look(5).step(0).step(2, type).after(Twins::askForCode);
            x.step(0).step(11).after(Twins::askForCode);
        }
    }

    private static void askForFunctions(Probe x) {
        x.add(0, 0, 0);
        for (int i = 0; i < 41 && hasTurn(x); i++) {
            x.begin(0).step(210, i).begin(0).step(0).step(16, i).look(0).operand(0).operand(1);
        }
    }

    private static void askForTables(Probe x) {
        for (int i = 0; i < 41 && hasTurn(x); i++) {
            x.begin(0).step(0).step(37, i).operand(0);
        }
    }

    private static void askForGlobals(Probe x) {
        for (int i = 0; i < 41 && hasTurn(x); i++) {
            x.begin(0).step(0).step(35, i).operand(0).step(36, i);
        }
    }

    private static void askForElementsAndData(Probe x) {
        x.add(1, Probe.FUNC, 0);
        int table = (int) x.answer();
        for (int i = 0; i < 41 && hasTurn(x); i++) {
            x.begin(0).step(265, i).begin(0).step(269, i).step(0).step(268, i, table).begin(0).step(63);
        }
    }
}
