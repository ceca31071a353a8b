/**
 * Checks code for a stack machine, one instruction at a time. No call throws: a wrong argument or a
 * fault is an answer.
 */
public final class CodeChecker {
    private static final int W32 = 127;
    private static final int W64 = 126;
    private static final int F32 = 125;
    private static final int F64 = 124;
    private static final int FUNCTION_REFERENCE = 112;
    private static final int OUTSIDE_REFERENCE = 111;
    private static final int UNKNOWN = 0;
    /** Stands in PLAIN for what an instruction gives, when it gives nothing. */
    private static final int NOTHING = -1;

    /** The block type of a block without parameters and results. */
    private static final int EMPTY_BLOCK = -64;
    /** A block type that is one value type is this much less than the value type. */
    private static final int BLOCK_TYPE_SHIFT = 128;

    private static final int MOST_TYPES = 40;
    private static final int MOST_PARTS = 12;
    private static final int MOST_OF_A_KIND = 40;
    private static final int MOST_LOCAL_CALLS = 40;
    private static final int MOST_LABELS = 20;
    private static final int MOST_BLOCKS = 60;
    private static final int MOST_OPERANDS = 200;

    private static final int NO_CODE = 0;
    private static final int SOME_CODE = 1;
    private static final int CODE_ENDED = 2;

    private static final int OUTERMOST = -1;
    private static final int LOOP = 3;
    private static final int IF = 4;
    private static final int ELSE = 5;
    private static final int END = 11;

    private static final int RIGHT = 0;
    private static final int WRONG_OPERAND = 1;
    private static final int ELSE_WITHOUT_IF = 2;
    private static final int OPERANDS_LEFT = 3;
    private static final int IF_NEEDS_ELSE = 4;
    private static final int LABELS_DIFFER = 5;
    private static final int WRONG_TABLE = 6;
    private static final int WRONG_REFERENCE = 7;
    private static final int GLOBAL_IS_FIXED = 8;
    private static final int NO_MEMORY = 9;
    private static final int WRONG_ALIGNMENT = 10;
    private static final int NOT_DECLARED = 11;
    private static final int MISSING = 12;
    private static final int NO_SUCH_INSTRUCTION = 13;
    private static final int NOT_IN_A_CONSTANT = 14;
    private static final int TOO_MANY = 15;

    /** First and last number of each unbroken run of instructions. */
    private static final int[] INSTRUCTIONS = {
        0, 5, 11, 17, 26, 28, 32, 38, 40, 196, 208, 210, 256, 273
    };

    /** What the instructions 40 to 62 load or store. */
    private static final int[] MOVED_TYPE = {
        W32, W64, F32, F64, W32, W32, W32, W32, W64, W64, W64, W64, W64, W64,
        W32, W64, F32, F64, W32, W32, W64, W64, W64
    };
    /** How many bytes the instructions 40 to 62 move. */
    private static final int[] MOVED_BYTES = {
        4, 8, 4, 8, 1, 1, 2, 2, 1, 1, 2, 2, 4, 4,
        4, 8, 4, 8, 1, 2, 1, 2, 4
    };
    private static final int FIRST_LOAD = 40;
    private static final int FIRST_STORE = 54;
    private static final int LAST_STORE = 62;

    /**
     * The instructions whose operands are the same whatever they name, five numbers a line: the
     * first and the last instruction, how many operands they take, of which type, what they give.
     */
    private static final int[] PLAIN = {
        63, 63, 0, UNKNOWN, W32,
        64, 64, 1, W32, W32,
        65, 65, 0, UNKNOWN, W32,
        66, 66, 0, UNKNOWN, W64,
        67, 67, 0, UNKNOWN, F32,
        68, 68, 0, UNKNOWN, F64,
        69, 69, 1, W32, W32,
        70, 79, 2, W32, W32,
        80, 80, 1, W64, W32,
        81, 90, 2, W64, W32,
        91, 96, 2, F32, W32,
        97, 102, 2, F64, W32,
        103, 105, 1, W32, W32,
        106, 120, 2, W32, W32,
        121, 123, 1, W64, W64,
        124, 138, 2, W64, W64,
        139, 145, 1, F32, F32,
        146, 152, 2, F32, F32,
        153, 159, 1, F64, F64,
        160, 166, 2, F64, F64,
        167, 167, 1, W64, W32,
        168, 169, 1, F32, W32,
        170, 171, 1, F64, W32,
        172, 173, 1, W32, W64,
        174, 175, 1, F32, W64,
        176, 177, 1, F64, W64,
        178, 179, 1, W32, F32,
        180, 181, 1, W64, F32,
        182, 182, 1, F64, F32,
        183, 184, 1, W32, F64,
        185, 186, 1, W64, F64,
        187, 187, 1, F32, F64,
        188, 188, 1, F32, W32,
        189, 189, 1, F64, W64,
        190, 190, 1, W32, F32,
        191, 191, 1, W64, F64,
        192, 193, 1, W32, W32,
        194, 196, 1, W64, W64,
        210, 210, 0, UNKNOWN, FUNCTION_REFERENCE,
        256, 257, 1, F32, W32,
        258, 259, 1, F64, W32,
        260, 261, 1, F32, W64,
        262, 263, 1, F64, W64,
        264, 264, 3, W32, NOTHING,
        266, 268, 3, W32, NOTHING,
        270, 270, 3, W32, NOTHING,
        272, 272, 0, UNKNOWN, W32
    };

    private final Things things;
    private final Code code;

    public CodeChecker() {
        Things made = new Things();
        things = made;
        code = new Code(made);
    }

    public int type() {
        return things.makeType();
    }

    public int part(boolean result, int t) {
        if (code.isOpen() || !isValueType(t)) {
            return -1;
        }
        return things.extendLatestType(result, t);
    }

    public int add(int kind, int a, int b) {
        return things.addThing(kind, a, b);
    }

    public boolean declare(int function) {
        return things.functions.mark(function);
    }

    public boolean begin(int type) {
        if (!things.hasType(type)) {
            return false;
        }
        code.openBody(type);
        return true;
    }

    public boolean constant(int type, int globals) {
        if (!isValueType(type) || globals < 0) {
            return false;
        }
        code.openConstant(type, globals);
        return true;
    }

    public boolean local(int t, int n) {
        return code.addLocals(t, n);
    }

    public int label(int x) {
        return code.addLabel(x);
    }

    public int step(int instruction, int x, int y) {
        if (!code.isOpen()) {
            return -1;
        }
        int fault = code.faultAhead(instruction, x, y);
        if (fault == RIGHT) {
            fault = code.carryOut(instruction, x);
        }
        code.finishInstruction(fault);
        return fault;
    }

    public int state() {
        return code.progress;
    }

    public long look(int what) {
        return code.isOpen() ? code.figure(what) : -1L;
    }

    public int operand(int k) {
        return code.isOpen() ? code.stack.operandFromEnd(k) : -1;
    }

    private static boolean isValueType(int t) {
        return t == W32 || t == W64 || t == F32 || t == F64 || isReferenceType(t);
    }

    private static boolean isReferenceType(int t) {
        return t == FUNCTION_REFERENCE || t == OUTSIDE_REFERENCE;
    }

    private static long withoutSign(int bits) {
        return bits & 0xFFFFFFFFL;
    }

    private static boolean isInstruction(int number) {
        for (int i = 0; i + 1 < INSTRUCTIONS.length; i += 2) {
            if (number >= INSTRUCTIONS[i] && number <= INSTRUCTIONS[i + 1]) {
                return true;
            }
        }
        return false;
    }

    /** Whether x can be read as a block type at all; its function type may still be missing. */
    private static boolean isBlockType(int x) {
        return x >= 0 || x == EMPTY_BLOCK || isValueType(x + BLOCK_TYPE_SHIFT);
    }

    /** Where the line of an instruction begins in PLAIN, -1 when it has none. */
    private static int plainLine(int instruction) {
        for (int i = 0; i + 4 < PLAIN.length; i += 5) {
            if (instruction >= PLAIN[i] && instruction <= PLAIN[i + 1]) {
                return i;
            }
        }
        return -1;
    }

    /** The parameters of all block types, or the results of all. */
    private static final class Rows {
        private final boolean ofResults;
        private final int[] sizes = new int[MOST_TYPES];
        private final int[] parts = new int[MOST_TYPES * MOST_PARTS];

        Rows(boolean ofResults) {
            this.ofResults = ofResults;
        }

        /** The new size of the row, -1 when it is full. */
        int append(int functionType, int t) {
            int size = sizeOf(functionType);
            int at = functionType * MOST_PARTS + size;
            if (functionType < 0 || functionType >= MOST_TYPES || size >= MOST_PARTS
                    || at < 0 || at >= parts.length) {
                return -1;
            }
            parts[at] = t;
            sizes[functionType] = size + 1;
            return size + 1;
        }

        int sizeOf(int blockType) {
            if (blockType < 0) {
                return ofResults && blockType != EMPTY_BLOCK ? 1 : 0;
            }
            return blockType < sizes.length ? sizes[blockType] : 0;
        }

        int partOf(int blockType, int i) {
            if (blockType < 0) {
                return blockType + BLOCK_TYPE_SHIFT;
            }
            if (blockType >= MOST_TYPES || i < 0 || i >= MOST_PARTS) {
                return UNKNOWN;
            }
            return parts[blockType * MOST_PARTS + i];
        }
    }

    /** All things of one kind: a type for each, and a mark (a global can change, a function is DECLARED). */
    private static final class Shelf {
        private final int[] types = new int[MOST_OF_A_KIND];
        private final boolean[] marks = new boolean[MOST_OF_A_KIND];
        private int count;

        int put(int type, boolean marked) {
            if (count < 0 || count >= types.length || count >= marks.length) {
                return -1;
            }
            types[count] = type;
            marks[count] = marked;
            count++;
            return count - 1;
        }

        /** A number of 32 bits without sign: below 0 it is beyond every count. */
        boolean has(int number) {
            return number >= 0 && number < count;
        }

        int typeOf(int number) {
            return has(number) && number < types.length ? types[number] : UNKNOWN;
        }

        boolean isMarked(int number) {
            return has(number) && number < marks.length && marks[number];
        }

        boolean mark(int number) {
            if (!has(number) || number >= marks.length) {
                return false;
            }
            marks[number] = true;
            return true;
        }
    }

    /** What there is besides the code. */
    private static final class Things {
        private final Rows parameters = new Rows(false);
        private final Rows results = new Rows(true);
        private final Shelf functions = new Shelf();
        private final Shelf tables = new Shelf();
        private final Shelf memories = new Shelf();
        private final Shelf globals = new Shelf();
        private final Shelf elements = new Shelf();
        private final Shelf data = new Shelf();
        private int typeCount;

        int makeType() {
            if (typeCount >= MOST_TYPES) {
                return -1;
            }
            typeCount++;
            return typeCount - 1;
        }

        boolean hasType(int number) {
            return number >= 0 && number < typeCount;
        }

        int extendLatestType(boolean result, int t) {
            Rows rows = result ? results : parameters;
            return rows.append(typeCount - 1, t);
        }

        int addThing(int kind, int a, int b) {
            switch (kind) {
                case 0:
                    return hasType(a) ? functions.put(a, false) : -1;
                case 1:
                    return isReferenceType(a) ? tables.put(a, false) : -1;
                case 2:
                    return memories.put(UNKNOWN, false);
                case 3:
                    return isValueType(a) && (b == 0 || b == 1) ? globals.put(a, b == 1) : -1;
                case 4:
                    return isReferenceType(a) ? elements.put(a, false) : -1;
                case 5:
                    return data.put(UNKNOWN, false);
                default:
                    return -1;
            }
        }

        boolean hasMemory() {
            return memories.has(0);
        }

        boolean hasLikeParametersAndResults(int blockType) {
            int size = parameters.sizeOf(blockType);
            if (size != results.sizeOf(blockType)) {
                return false;
            }
            for (int i = 0; i < size; i++) {
                if (parameters.partOf(blockType, i) != results.partOf(blockType, i)) {
                    return false;
                }
            }
            return true;
        }
    }

    /** The locals of a body, kept as groups of one type, since one call may bring 2 ^ 32 - 1 of them. */
    private static final class Locals {
        private final int[] types = new int[MOST_PARTS + MOST_LOCAL_CALLS];
        private final long[] ends = new long[MOST_PARTS + MOST_LOCAL_CALLS];
        private int groups;
        private long count;

        void clear() {
            groups = 0;
            count = 0L;
        }

        void append(int type, long n) {
            if (groups < 0 || groups >= types.length || groups >= ends.length) {
                return;
            }
            count += n;
            types[groups] = type;
            ends[groups] = count;
            groups++;
        }

        boolean has(int number) {
            return withoutSign(number) < count;
        }

        int typeOf(int number) {
            long wanted = withoutSign(number);
            for (int i = 0; i < groups && i < types.length && i < ends.length; i++) {
                if (wanted < ends[i]) {
                    return types[i];
                }
            }
            return UNKNOWN;
        }
    }

    /**
     * The operands and the blocks. The first fault stays, and behind it nothing more is done: so an
     * instruction is written as a plain row of takes and gives.
     */
    private static final class Stack {
        private final Things things;
        private final int[] operands = new int[MOST_OPERANDS];
        private final int[] blockTypes = new int[MOST_BLOCKS];
        private final int[] heights = new int[MOST_BLOCKS];
        private final int[] openers = new int[MOST_BLOCKS];
        private final boolean[] lives = new boolean[MOST_BLOCKS];
        private final int[] taken = new int[MOST_PARTS];
        private int operandCount;
        private int blockCount;
        private int fault;

        Stack(Things things) {
            this.things = things;
        }

        void restart(int blockType) {
            operandCount = 0;
            blockCount = 0;
            fault = RIGHT;
            pushBlock(OUTERMOST, blockType);
        }

        private void fail(int reason) {
            if (fault == RIGHT) {
                fault = reason;
            }
        }

        private boolean hasInnermost() {
            return blockCount > 0 && blockCount <= MOST_BLOCKS;
        }

        boolean hasBlock(int outwards) {
            return outwards >= 0 && outwards < blockCount;
        }

        /** What a row holds for the block so many blocks outwards. */
        private int ofBlock(int[] row, int outwards) {
            int at = blockCount - 1 - outwards;
            return outwards >= 0 && at >= 0 && at < row.length ? row[at] : 0;
        }

        int height() {
            return ofBlock(heights, 0);
        }

        int opener() {
            return ofBlock(openers, 0);
        }

        boolean isLive() {
            return hasInnermost() && lives[blockCount - 1];
        }

        int operandFromEnd(int k) {
            if (k < 0 || k >= operandCount || operandCount > operands.length) {
                return -1;
            }
            return operands[operandCount - 1 - k];
        }

        /** Takes an operand whatever it is: UNKNOWN when a DEAD block has none. */
        int takeAny() {
            int block = blockCount - 1;
            int top = operandCount - 1;
            if (fault != RIGHT || block < 0 || block >= MOST_BLOCKS) {
                return UNKNOWN;
            }
            if (top >= heights[block] && top >= 0 && top < operands.length) {
                operandCount = top;
                return operands[top];
            }
            if (lives[block]) {
                fault = WRONG_OPERAND;
            }
            return UNKNOWN;
        }

        int take(int t) {
            int found = takeAny();
            if (found != UNKNOWN && found != t) {
                fail(WRONG_OPERAND);
            }
            return found;
        }

        void give(int t) {
            if (fault != RIGHT) {
                return;
            }
            if (operandCount < 0 || operandCount >= operands.length) {
                fault = TOO_MANY;
                return;
            }
            operands[operandCount] = t;
            operandCount++;
        }

        void takeTimes(int t, int times) {
            for (int i = 0; i < times; i++) {
                take(t);
            }
        }

        void takeRow(Rows rows, int blockType) {
            for (int i = rows.sizeOf(blockType) - 1; i >= 0; i--) {
                take(rows.partOf(blockType, i));
            }
        }

        void giveRow(Rows rows, int blockType) {
            int size = rows.sizeOf(blockType);
            for (int i = 0; i < size; i++) {
                give(rows.partOf(blockType, i));
            }
        }

        void die() {
            if (fault != RIGHT || !hasInnermost()) {
                return;
            }
            operandCount = heights[blockCount - 1];
            lives[blockCount - 1] = false;
        }

        private void pushBlock(int opener, int blockType) {
            if (fault != RIGHT) {
                return;
            }
            if (blockCount < 0 || blockCount >= MOST_BLOCKS) {
                fault = TOO_MANY;
                return;
            }
            blockTypes[blockCount] = blockType;
            heights[blockCount] = operandCount;
            openers[blockCount] = opener;
            lives[blockCount] = true;
            blockCount++;
        }

        void openBlock(int opener, int blockType) {
            takeRow(things.parameters, blockType);
            pushBlock(opener, blockType);
            giveRow(things.parameters, blockType);
        }

        private void expectNoMoreOperands() {
            if (operandCount > height()) {
                fail(OPERANDS_LEFT);
            }
        }

        void turnToElse() {
            if (!hasInnermost() || opener() != IF) {
                fail(ELSE_WITHOUT_IF);
                return;
            }
            int blockType = ofBlock(blockTypes, 0);
            takeRow(things.results, blockType);
            expectNoMoreOperands();
            openers[blockCount - 1] = ELSE;
            lives[blockCount - 1] = true;
            giveRow(things.parameters, blockType);
        }

        void closeBlock() {
            int blockType = ofBlock(blockTypes, 0);
            takeRow(things.results, blockType);
            expectNoMoreOperands();
            if (opener() == IF && !things.hasLikeParametersAndResults(blockType)) {
                fail(IF_NEEDS_ELSE);
            }
            if (fault != RIGHT || !hasInnermost()) {
                return;
            }
            blockCount--;
            if (blockCount > 0) {
                giveRow(things.results, blockType);
            }
        }

        private Rows labelRows(int label) {
            return ofBlock(openers, label) == LOOP ? things.parameters : things.results;
        }

        int labelSize(int label) {
            return labelRows(label).sizeOf(ofBlock(blockTypes, label));
        }

        void takeLabel(int label) {
            takeRow(labelRows(label), ofBlock(blockTypes, label));
        }

        void giveLabel(int label) {
            giveRow(labelRows(label), ofBlock(blockTypes, label));
        }

        /** Takes a label that must be of the size that is due, and gives again what was taken. */
        void passLabel(int label, int due) {
            Rows rows = labelRows(label);
            int blockType = ofBlock(blockTypes, label);
            int size = rows.sizeOf(blockType);
            if (size != due || size > taken.length) {
                fail(LABELS_DIFFER);
                return;
            }
            for (int i = size - 1; i >= 0; i--) {
                taken[i] = take(rows.partOf(blockType, i));
            }
            for (int i = 0; i < size; i++) {
                give(taken[i]);
            }
        }

        void takeOutermostResults() {
            takeRow(things.results, ofBlock(blockTypes, blockCount - 1));
        }

        void takeReference() {
            int found = takeAny();
            if (found != UNKNOWN && !isReferenceType(found)) {
                fail(WRONG_REFERENCE);
            }
        }

        void choose() {
            take(W32);
            int last = takeAny();
            int first = takeAny();
            if (isReferenceType(last) || isReferenceType(first)) {
                fail(WRONG_REFERENCE);
            }
            if (last != first && last != UNKNOWN && first != UNKNOWN) {
                fail(WRONG_OPERAND);
            }
            give(last == UNKNOWN ? first : last);
        }
    }

    /** The code: what it may use, and what each instruction asks for and does. */
    private static final class Code {
        private final Things things;
        private final Stack stack;
        private final Locals locals = new Locals();
        private final int[] labels = new int[MOST_LABELS];
        private int labelCount;
        private int progress = NO_CODE;
        private boolean isConstant;
        private boolean hasInstruction;
        private int visibleGlobals;
        private int localCalls;

        Code(Things things) {
            this.things = things;
            stack = new Stack(things);
        }

        boolean isOpen() {
            return progress == SOME_CODE;
        }

        private void open(int outermostType, boolean asConstant) {
            stack.restart(outermostType);
            locals.clear();
            labelCount = 0;
            localCalls = 0;
            hasInstruction = false;
            isConstant = asConstant;
            progress = SOME_CODE;
        }

        void openBody(int functionType) {
            open(functionType, false);
            int size = things.parameters.sizeOf(functionType);
            for (int i = 0; i < size; i++) {
                locals.append(things.parameters.partOf(functionType, i), 1L);
            }
        }

        void openConstant(int valueType, int globals) {
            open(valueType - BLOCK_TYPE_SHIFT, true);
            visibleGlobals = globals;
        }

        boolean addLocals(int t, int n) {
            if (!isOpen() || isConstant || hasInstruction || !isValueType(t)
                    || localCalls >= MOST_LOCAL_CALLS) {
                return false;
            }
            locals.append(t, withoutSign(n));
            localCalls++;
            return true;
        }

        int addLabel(int x) {
            if (!isOpen() || labelCount < 0 || labelCount >= labels.length) {
                return -1;
            }
            labels[labelCount] = x;
            labelCount++;
            return labelCount;
        }

        void finishInstruction(int fault) {
            hasInstruction = true;
            labelCount = 0;
            if (fault != RIGHT) {
                progress = NO_CODE;
            } else if (stack.blockCount == 0) {
                progress = CODE_ENDED;
            }
        }

        long figure(int what) {
            switch (what) {
                case 0:
                    return stack.operandCount;
                case 1:
                    return stack.blockCount;
                case 2:
                    return stack.height();
                case 3:
                    return stack.isLive() ? 1L : 0L;
                case 4:
                    return stack.opener();
                case 5:
                    return locals.count;
                default:
                    return -1L;
            }
        }

        /** The faults that are looked for ahead of what is taken, in their order. */
        int faultAhead(int instruction, int x, int y) {
            if (isMalformed(instruction, x)) {
                return NO_SUCH_INSTRUCTION;
            }
            if (isConstant && !mayStandInConstant(instruction, x)) {
                return NOT_IN_A_CONSTANT;
            }
            if (namesWhatIsMissing(instruction, x, y)) {
                return MISSING;
            }
            return misfit(instruction, x, y);
        }

        private boolean isMalformed(int instruction, int x) {
            switch (instruction) {
                case 2:
                case 3:
                case 4:
                    return !isBlockType(x);
                case 28:
                    return !isValueType(x);
                case 208:
                    return !isReferenceType(x);
                default:
                    return !isInstruction(instruction);
            }
        }

        private boolean mayStandInConstant(int instruction, int x) {
            if (instruction == 35) {
                return things.globals.has(x) && x < visibleGlobals && !things.globals.isMarked(x);
            }
            return instruction == END || (instruction >= 65 && instruction <= 68)
                    || instruction == 208 || instruction == 210;
        }

        private boolean namesWhatIsMissing(int instruction, int x, int y) {
            switch (instruction) {
                case 2:
                case 3:
                case 4:
                    return x >= 0 && !things.hasType(x);
                case 12:
                case 13:
                    return !stack.hasBlock(x);
                case 14:
                    return !stack.hasBlock(x) || isLabelMissing();
                case 16:
                case 210:
                    return !things.functions.has(x);
                case 17:
                    return !things.hasType(x) || !things.tables.has(y);
                case 32:
                case 33:
                case 34:
                    return !locals.has(x);
                case 35:
                case 36:
                    return !things.globals.has(x);
                case 37:
                case 38:
                case 271:
                case 272:
                case 273:
                    return !things.tables.has(x);
                case 264:
                case 265:
                    return !things.data.has(x);
                case 268:
                    return !things.elements.has(x) || !things.tables.has(y);
                case 269:
                    return !things.elements.has(x);
                case 270:
                    return !things.tables.has(x) || !things.tables.has(y);
                default:
                    return false;
            }
        }

        private boolean isLabelMissing() {
            for (int i = 0; i < labelCount && i < labels.length; i++) {
                if (!stack.hasBlock(labels[i])) {
                    return true;
                }
            }
            return false;
        }

        /** The faults 6 and 8 to 11: what is named is there, but it is not as it must be. */
        private int misfit(int instruction, int x, int y) {
            if (instruction >= FIRST_LOAD && instruction <= LAST_STORE) {
                return accessFault(instruction, x);
            }
            switch (instruction) {
                case 17:
                    return things.tables.typeOf(y) == FUNCTION_REFERENCE ? RIGHT : WRONG_TABLE;
                case 36:
                    return things.globals.isMarked(x) ? RIGHT : GLOBAL_IS_FIXED;
                case 63:
                case 64:
                case 264:
                case 266:
                case 267:
                    return things.hasMemory() ? RIGHT : NO_MEMORY;
                case 210:
                    return things.functions.isMarked(x) ? RIGHT : NOT_DECLARED;
                case 268:
                    return things.elements.typeOf(x) == things.tables.typeOf(y) ? RIGHT : WRONG_TABLE;
                case 270:
                    return things.tables.typeOf(x) == things.tables.typeOf(y) ? RIGHT : WRONG_TABLE;
                default:
                    return RIGHT;
            }
        }

        private int accessFault(int instruction, int power) {
            if (!things.hasMemory()) {
                return NO_MEMORY;
            }
            int at = instruction - FIRST_LOAD;
            int bytes = at >= 0 && at < MOVED_BYTES.length ? MOVED_BYTES[at] : 0;
            // A shift by 32 begins anew in Java, and the power has no sign: the range comes first.
            boolean fits = power >= 0 && power < 31 && (1 << power) <= bytes;
            return fits ? RIGHT : WRONG_ALIGNMENT;
        }

        /** Does what the instruction does, and answers the fault that came of it. */
        int carryOut(int instruction, int x) {
            int plain = plainLine(instruction);
            if (plain >= 0) {
                carryOutPlain(plain);
            } else if (instruction <= END) {
                carryOutBlock(instruction, x);
            } else if (instruction <= 17) {
                carryOutBranch(instruction, x);
            } else if (instruction <= 36) {
                carryOutVariable(instruction, x);
            } else if (instruction >= FIRST_LOAD && instruction <= LAST_STORE) {
                carryOutAccess(instruction);
            } else {
                carryOutReference(instruction, x);
            }
            return stack.fault;
        }

        private void carryOutPlain(int line) {
            if (line < 0 || line + 4 >= PLAIN.length) {
                return;
            }
            stack.takeTimes(PLAIN[line + 3], PLAIN[line + 2]);
            if (PLAIN[line + 4] != NOTHING) {
                stack.give(PLAIN[line + 4]);
            }
        }

        private void carryOutBlock(int instruction, int x) {
            switch (instruction) {
                case 0:
                    stack.die();
                    break;
                case 2:
                case 3:
                    stack.openBlock(instruction, x);
                    break;
                case 4:
                    stack.take(W32);
                    stack.openBlock(instruction, x);
                    break;
                case 5:
                    stack.turnToElse();
                    break;
                case 11:
                    stack.closeBlock();
                    break;
                default:
                    break;
            }
        }

        private void carryOutBranch(int instruction, int x) {
            switch (instruction) {
                case 12:
                    stack.takeLabel(x);
                    stack.die();
                    break;
                case 13:
                    stack.take(W32);
                    stack.takeLabel(x);
                    stack.giveLabel(x);
                    break;
                case 14:
                    branchByRow(x);
                    break;
                case 15:
                    stack.takeOutermostResults();
                    stack.die();
                    break;
                case 16:
                    enterFunction(things.functions.typeOf(x));
                    break;
                case 17:
                    stack.take(W32);
                    enterFunction(x);
                    break;
                default:
                    break;
            }
        }

        private void branchByRow(int x) {
            stack.take(W32);
            int due = stack.labelSize(x);
            for (int i = 0; i < labelCount && i < labels.length; i++) {
                stack.passLabel(labels[i], due);
            }
            stack.takeLabel(x);
            stack.die();
        }

        private void enterFunction(int functionType) {
            stack.takeRow(things.parameters, functionType);
            stack.giveRow(things.results, functionType);
        }

        private void carryOutVariable(int instruction, int x) {
            switch (instruction) {
                case 26:
                    stack.takeAny();
                    break;
                case 27:
                    stack.choose();
                    break;
                case 28:
                    stack.take(W32);
                    stack.takeTimes(x, 2);
                    stack.give(x);
                    break;
                case 32:
                    stack.give(locals.typeOf(x));
                    break;
                case 33:
                    stack.take(locals.typeOf(x));
                    break;
                case 34:
                    stack.take(locals.typeOf(x));
                    stack.give(locals.typeOf(x));
                    break;
                case 35:
                    stack.give(things.globals.typeOf(x));
                    break;
                case 36:
                    stack.take(things.globals.typeOf(x));
                    break;
                default:
                    break;
            }
        }

        private void carryOutAccess(int instruction) {
            int at = instruction - FIRST_LOAD;
            int moved = at >= 0 && at < MOVED_TYPE.length ? MOVED_TYPE[at] : UNKNOWN;
            if (instruction < FIRST_STORE) {
                stack.take(W32);
                stack.give(moved);
            } else {
                stack.take(moved);
                stack.take(W32);
            }
        }

        private void carryOutReference(int instruction, int x) {
            switch (instruction) {
                case 37:
                    stack.take(W32);
                    stack.give(things.tables.typeOf(x));
                    break;
                case 38:
                    stack.take(things.tables.typeOf(x));
                    stack.take(W32);
                    break;
                case 208:
                    stack.give(x);
                    break;
                case 209:
                    stack.takeReference();
                    stack.give(W32);
                    break;
                case 271:
                    stack.take(W32);
                    stack.take(things.tables.typeOf(x));
                    stack.give(W32);
                    break;
                case 273:
                    stack.take(W32);
                    stack.take(things.tables.typeOf(x));
                    stack.take(W32);
                    break;
                default:
                    break;
            }
        }
    }
}
