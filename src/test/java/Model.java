import java.util.ArrayList;
import java.util.Arrays;
import java.util.Collections;
import java.util.HashMap;
import java.util.List;
import java.util.Map;

/**
 * The document told once more, with lists and exceptions and without regard for LANGUAGE.md: what
 * RandomRunsTest holds the program against.
 */
final class Model {
    private static final class Fault extends RuntimeException {
        private static final long serialVersionUID = 1L;
        final int number;

        Fault(int number) {
            super(null, null, false, false);
            this.number = number;
        }
    }

    static final class Signature {
        final List<Integer> parameters = new ArrayList<>();
        final List<Integer> results = new ArrayList<>();

        Signature(List<Integer> parameters, List<Integer> results) {
            this.parameters.addAll(parameters);
            this.results.addAll(results);
        }
    }

    private static final class Block {
        int begunBy;
        int height;
        boolean live = true;
        Signature signature;

        List<Integer> labelTypes() {
            return begunBy == 3 ? signature.parameters : signature.results;
        }
    }

    private static final List<Integer> VALUES = List.of(127, 126, 125, 124, 112, 111);
    private static final Map<Integer, Signature> FIXED = new HashMap<>();

    static {
        String[] text = {
            "63 >i", "64 i>i", "65 >i", "66 >l", "67 >f", "68 >d", "69 i>i", "70-79 ii>i", "80 l>i", "81-90 ll>i",
            "91-96 ff>i", "97-102 dd>i", "103-105 i>i", "121-123 l>l", "106-120 ii>i", "124-138 ll>l",
            "139-145 f>f", "153-159 d>d", "146-152 ff>f", "160-166 dd>d", "167 l>i", "168-169 f>i",
            "170-171 d>i", "172-173 i>l", "174-175 f>l", "176-177 d>l", "178-179 i>f", "180-181 l>f",
            "182 d>f", "183-184 i>d", "185-186 l>d", "187 f>d", "188 f>i", "189 d>l", "190 i>f", "191 l>d",
            "192-193 i>i", "194-196 l>l", "256-257 f>i", "258-259 d>i", "260-261 f>l", "262-263 d>l",
            "40 i>i", "41 i>l", "42 i>f", "43 i>d", "44-47 i>i", "48-53 i>l", "54 ii>", "55 il>", "56 if>",
            "57 id>", "58-59 ii>", "60-62 il>", "264 iii>", "265 >", "266-268 iii>", "269 >", "270 iii>", "272 >i",
            "1 >", "210 >F"
        };
        for (String line : text) {
            String[] words = line.split(" ");
            String[] ends = words[0].split("-");
            int arrow = words[1].indexOf('>');
            Signature s = new Signature(read(words[1].substring(0, arrow)), read(words[1].substring(arrow + 1)));
            for (int n = Integer.parseInt(ends[0]); n <= Integer.parseInt(ends[ends.length - 1]); n++) {
                FIXED.put(n, s);
            }
        }
    }

    private static List<Integer> read(String letters) {
        List<Integer> types = new ArrayList<>();
        for (char c : letters.toCharArray()) {
            types.add(VALUES.get("ilfdFX".indexOf(c)));
        }
        return types;
    }

    final List<Signature> types = new ArrayList<>();
    final List<List<Integer>> things = new ArrayList<>();
    final List<Boolean> changing = new ArrayList<>();
    final List<Integer> declared = new ArrayList<>();
    final List<Integer> row = new ArrayList<>();
    final List<Integer> operands = new ArrayList<>();
    final List<Block> blocks = new ArrayList<>();
    final List<long[]> locals = new ArrayList<>();
    int state;
    boolean isConstant;
    boolean stepped;
    int visible;
    int localCalls;

    Model() {
        for (int kind = 0; kind < 6; kind++) {
            things.add(new ArrayList<>());
        }
    }

    /** The same things (they are shared) and the same code (it is copied): to try an instruction. */
    Model copyOfCode() {
        Model copy = new Model();
        copy.types.addAll(types);
        copy.things.clear();
        copy.things.addAll(things);
        copy.changing.addAll(changing);
        copy.declared.addAll(declared);
        copy.row.addAll(row);
        copy.operands.addAll(operands);
        for (Block block : blocks) {
            Block b = new Block();
            b.begunBy = block.begunBy;
            b.height = block.height;
            b.live = block.live;
            b.signature = block.signature;
            copy.blocks.add(b);
        }
        copy.locals.addAll(locals);
        copy.state = state;
        copy.isConstant = isConstant;
        copy.stepped = stepped;
        copy.visible = visible;
        return copy;
    }

    int type() {
        if (types.size() == 40) {
            return -1;
        }
        types.add(new Signature(List.of(), List.of()));
        return types.size() - 1;
    }

    int part(boolean result, int t) {
        if (types.isEmpty() || !VALUES.contains(t) || state == 1) {
            return -1;
        }
        Signature latest = types.get(types.size() - 1);
        List<Integer> list = result ? latest.results : latest.parameters;
        if (list.size() == 12) {
            return -1;
        }
        list.add(t);
        return list.size();
    }

    int add(int kind, int a, int b) {
        if (kind < 0 || kind > 5 || things.get(kind).size() == 40) {
            return -1;
        }
        boolean reference = a == 112 || a == 111;
        boolean good = kind == 0 ? a >= 0 && a < types.size()
                : kind == 1 || kind == 4 ? reference
                : kind != 3 || VALUES.contains(a) && (b == 0 || b == 1);
        if (!good) {
            return -1;
        }
        if (kind == 3) {
            changing.add(b == 1);
        }
        things.get(kind).add(a);
        return things.get(kind).size() - 1;
    }

    boolean declare(int function) {
        if (function < 0 || function >= things.get(0).size()) {
            return false;
        }
        declared.add(function);
        return true;
    }

    private void start(List<Integer> results, boolean constant) {
        row.clear();
        operands.clear();
        blocks.clear();
        locals.clear();
        state = 1;
        stepped = false;
        localCalls = 0;
        isConstant = constant;
        Block outermost = new Block();
        outermost.begunBy = -1;
        outermost.signature = new Signature(List.of(), results);
        blocks.add(outermost);
    }

    boolean begin(int type) {
        if (type < 0 || type >= types.size()) {
            return false;
        }
        start(types.get(type).results, false);
        for (int t : types.get(type).parameters) {
            locals.add(new long[] {t, 1});
        }
        return true;
    }

    boolean constant(int type, int globals) {
        if (!VALUES.contains(type) || globals < 0) {
            return false;
        }
        start(List.of(type), true);
        visible = globals;
        return true;
    }

    boolean local(int t, int n) {
        if (state != 1 || isConstant || stepped || !VALUES.contains(t) || localCalls == 40) {
            return false;
        }
        localCalls++;
        locals.add(new long[] {t, Integer.toUnsignedLong(n)});
        return true;
    }

    int label(int x) {
        if (state != 1 || row.size() == 20) {
            return -1;
        }
        row.add(x);
        return row.size();
    }

    int state() {
        return state;
    }

    long look(int what) {
        if (state != 1 || what < 0 || what > 5) {
            return -1;
        }
        Block b = innermost();
        long count = 0;
        for (long[] group : locals) {
            count += group[1];
        }
        return new long[] {operands.size(), blocks.size(), b.height, b.live ? 1 : 0, b.begunBy, count}[what];
    }

    int operand(int k) {
        return state != 1 || k < 0 || k >= operands.size() ? -1 : operands.get(operands.size() - 1 - k);
    }

    int step(int instruction, int x, int y) {
        if (state != 1) {
            return -1;
        }
        try {
            form(instruction, x);
            inConstant(instruction, x);
            there(instruction, x, y);
            fitting(instruction, x, y);
            act(instruction, x);
        } catch (Fault fault) {
            state = 0;
            return fault.number;
        }
        row.clear();
        stepped = true;
        if (blocks.isEmpty()) {
            state = 2;
        }
        return 0;
    }

    private static void need(boolean good, int fault) {
        if (!good) {
            throw new Fault(fault);
        }
    }

    private Block innermost() {
        return blocks.get(blocks.size() - 1);
    }

    private static final List<Integer> OTHERS = List.of(0, 2, 3, 4, 5, 11, 12, 13, 14, 15, 16, 17, 26, 27, 28, 32, 33, 34,
            35, 36, 37, 38, 208, 209, 271, 273);

    private void form(int n, int x) {
        need(FIXED.containsKey(n) || OTHERS.contains(n), 13);
        if (n >= 2 && n <= 4) {
            need(x >= 0 || List.of(-64, -1, -2, -3, -4, -16, -17).contains(x), 13);
        }
        need(n != 28 || VALUES.contains(x), 13);
        need(n != 208 || x == 112 || x == 111, 13);
    }

    private void inConstant(int n, int x) {
        if (isConstant) {
            need(List.of(11, 35, 65, 66, 67, 68, 208, 210).contains(n), 14);
            need(n != 35 || x >= 0 && x < visible && x < changing.size() && !changing.get(x), 14);
        }
    }

    private static final Map<Integer, String> NAMED = Map.ofEntries(
            Map.entry(12, "L"), Map.entry(13, "L"), Map.entry(14, "L"), Map.entry(16, "0"), Map.entry(17, "T1"),
            Map.entry(32, "V"), Map.entry(33, "V"), Map.entry(34, "V"), Map.entry(35, "3"), Map.entry(36, "3"),
            Map.entry(37, "1"), Map.entry(38, "1"), Map.entry(210, "0"), Map.entry(264, "5"), Map.entry(265, "5"),
            Map.entry(268, "41"), Map.entry(269, "4"), Map.entry(270, "11"), Map.entry(271, "1"),
            Map.entry(272, "1"), Map.entry(273, "1"));

    private void there(int n, int x, int y) {
        if (n >= 2 && n <= 4 && x >= 0) {
            isThere('T', x);
        }
        String named = NAMED.getOrDefault(n, "");
        for (int i = 0; i < named.length(); i++) {
            isThere(named.charAt(i), i == 0 ? x : y);
        }
        if (n == 14) {
            for (int label : row) {
                isThere('L', label);
            }
        }
    }

    private void isThere(char what, int number) {
        long count = what == 'L' ? blocks.size() : what == 'T' ? types.size()
                : what == 'V' ? look(5) : things.get(what - '0').size();
        need(Integer.toUnsignedLong(number) < count, 12);
    }

    private static final int[] LARGEST_POWER = {
        2, 3, 2, 3, 0, 0, 1, 1, 0, 0, 1, 1, 2, 2, 2, 3, 2, 3, 0, 1, 0, 1, 2
    };

    private void fitting(int n, int x, int y) {
        List<Integer> tables = things.get(1);
        need(n != 17 || tables.get(y) == 112, 6);
        need(n != 36 || changing.get(x), 8);
        boolean memory = n >= 40 && n <= 64 || n == 264 || n == 266 || n == 267;
        need(!memory || !things.get(2).isEmpty(), 9);
        if (n >= 40 && n <= 62) {
            need(Integer.toUnsignedLong(x) <= LARGEST_POWER[n - 40], 10);
        }
        need(n != 210 || declared.contains(x), 11);
        need(n != 268 || things.get(4).get(x).intValue() == tables.get(y), 6);
        need(n != 270 || tables.get(x).intValue() == tables.get(y), 6);
    }

    private int any() {
        Block b = innermost();
        if (operands.size() == b.height) {
            need(!b.live, 1);
            return 0;
        }
        return operands.remove(operands.size() - 1);
    }

    private List<Integer> take(List<Integer> wanted) {
        List<Integer> got = new ArrayList<>();
        for (int i = wanted.size() - 1; i >= 0; i--) {
            int t = any();
            need(t == 0 || t == wanted.get(i), 1);
            got.add(0, t);
        }
        return got;
    }

    private void take(Integer... wanted) {
        take(Arrays.asList(wanted));
    }

    private void give(List<Integer> given) {
        for (int t : given) {
            need(operands.size() < 200, 15);
            operands.add(t);
        }
    }

    private void give(Integer... given) {
        give(Arrays.asList(given));
    }

    private void dead() {
        Block b = innermost();
        b.live = false;
        operands.subList(b.height, operands.size()).clear();
    }

    private Block outwards(int k) {
        return blocks.get(blocks.size() - 1 - k);
    }

    private Signature ofBlockType(int x) {
        if (x >= 0) {
            return types.get(x);
        }
        return new Signature(List.of(), x == -64 ? List.of() : List.of(x + 128));
    }

    private int localType(int x) {
        long left = Integer.toUnsignedLong(x);
        for (long[] group : locals) {
            if (left < group[1]) {
                return (int) group[0];
            }
            left -= group[1];
        }
        throw new IllegalStateException("no local " + x);
    }

    private void act(int n, int x) {
        Signature fixed = FIXED.get(n);
        if (fixed != null) {
            take(fixed.parameters);
            give(fixed.results);
        } else if (n <= 11) {
            actOnBlocks(n, x);
        } else if (n <= 17) {
            actOnLabels(n, x);
        } else {
            actOnThings(n, x);
        }
    }

    private void actOnBlocks(int n, int x) {
        Block b = innermost();
        if (n == 0) {
            dead();
        } else if (n <= 4) {
            Signature s = ofBlockType(x);
            if (n == 4) {
                take(127);
            }
            take(s.parameters);
            need(blocks.size() < 60, 15);
            Block inner = new Block();
            inner.begunBy = n;
            inner.height = operands.size();
            inner.signature = s;
            blocks.add(inner);
            give(s.parameters);
        } else {
            need(n == 11 || b.begunBy == 4, 2);
            take(b.signature.results);
            need(operands.size() == b.height, 3);
            if (n == 5) {
                b.begunBy = 5;
                b.live = true;
                give(b.signature.parameters);
                return;
            }
            need(b.begunBy != 4 || b.signature.parameters.equals(b.signature.results), 4);
            blocks.remove(b);
            if (!blocks.isEmpty()) {
                give(b.signature.results);
            }
        }
    }

    private void actOnLabels(int n, int x) {
        if (n == 13 || n == 14 || n == 17) {
            take(127);
        }
        if (n <= 14) {
            List<Integer> last = outwards(x).labelTypes();
            for (int label : n == 14 ? row : Collections.<Integer>emptyList()) {
                List<Integer> wanted = outwards(label).labelTypes();
                need(wanted.size() == last.size(), 5);
                give(take(wanted));
            }
            take(last);
            if (n == 13) {
                give(last);
            } else {
                dead();
            }
        } else if (n == 15) {
            take(blocks.get(0).signature.results);
            dead();
        } else {
            Signature s = types.get(n == 17 ? x : things.get(0).get(x));
            take(s.parameters);
            give(s.results);
        }
    }

    private void actOnThings(int n, int x) {
        List<Integer> tables = things.get(1);
        switch (n) {
            case 26 -> any();
            case 27 -> {
                take(127);
                int a = any();
                int b = any();
                need(a < 111 || a > 112, 7);
                need(b < 111 || b > 112, 7);
                need(a == b || a == 0 || b == 0, 1);
                give(Math.max(a, b));
            }
            case 28 -> {
                take(x, x, 127);
                give(x);
            }
            case 32 -> give(localType(x));
            case 33 -> take(localType(x));
            case 34 -> {
                take(localType(x));
                give(localType(x));
            }
            case 35 -> give(things.get(3).get(x));
            case 36 -> take(things.get(3).get(x));
            case 37 -> {
                take(127);
                give(tables.get(x));
            }
            case 38 -> take(127, tables.get(x));
            case 208 -> give(x);
            case 209 -> {
                need(List.of(0, 111, 112).contains(any()), 7);
                give(127);
            }
            case 271 -> {
                take(tables.get(x), 127);
                give(127);
            }
            case 273 -> take(127, tables.get(x), 127);
            default -> throw new IllegalStateException("instruction " + n);
        }
    }
}
