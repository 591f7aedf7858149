import java.util.NoSuchElementException;

/** Recognizes the reductions of a loop, executes them in several orders and compares the orders. */
public final class ReductionFinder {

    private static final int VARIABLES = 8;
    private static final int ARRAYS = 3;
    private static final int ELEMENTS = 16;
    private static final int MAX_COUNT = 16;
    private static final int MAX_WIDTH = 8;
    private static final int MAX_VALUE = 99;
    private static final int MAX_INITIAL = 999;

    private static final int MAX_TEXT = 100;
    private static final int MAX_STATEMENTS = 8;
    private static final int MAX_NODES = 200;
    private static final int MAX_PARENTHESES = 4;

    // An expression is a row of node codes, each operator or function before its operands.
    // The codes are those that next() answers; a number's code is the number itself.
    private static final int START = 100;
    private static final int ELEMENT = 200;
    private static final int OPERATOR = 300;
    private static final int PLUS = 300;
    private static final int TIMES = 301;
    private static final int AND = 302;
    private static final int OR = 303;
    private static final int XOR = 304;
    private static final int MIN = 305;
    private static final int MAX = 306;
    private static final int MINUS = 307;
    private static final int CHOICE = 308;
    private static final int OPERATORS = 7;

    private static final int UNASSIGNED = 0;
    private static final int PRIVATE = 1;
    private static final int REDUCTION = 2;
    private static final int SCAN = 3;
    private static final int OTHER = 4;

    private static final int SEQUENTIAL = 0;
    private static final int LANES = 1;
    private static final int BLOCKS = 2;
    private static final int TREE = 3;

    private static final int NONE = -1;

    // The spare, the current and the saved program are three different slots at most,
    // so that neither a failed load nor a snapshot needs a copy.
    private static final int PROGRAM_SLOTS = 3;

    private final Reader reader = new Reader();
    private final HeightWalk heightWalk = new HeightWalk();
    private final ChainWalk chainWalk = new ChainWalk();
    private final Program[] programs = new Program[PROGRAM_SLOTS];
    private final Data data = new Data();
    private final Data savedData = new Data();
    private final IntMachine intMachine = new IntMachine(data);
    private final FloatMachine floatMachine = new FloatMachine(data);
    private Program program;
    private Program savedProgram = null;
    private int fault = NONE;
    private int cursorVariable = NONE;
    private int cursorPosition = 0;
    private int resultMode = NONE;

    public ReductionFinder() {
        for (int slot = 0; slot < PROGRAM_SLOTS; slot++) {
            programs[slot] = new Program();
        }
        program = programs[0];
    }

    // ---- Texts and data

    public int append(int packed) throws IllegalArgumentException, IllegalStateException {
        int signs = 0;
        for (int shift = 24; shift >= 0; shift -= 8) {
            int sign = (packed >>> shift) & 255;
            if (sign != 0 && (sign < 33 || sign > 126)) {
                throw new IllegalArgumentException("a byte is not a character of a text");
            }
            if (sign != 0) {
                signs++;
            }
        }
        if (reader.length + signs > MAX_TEXT) {
            throw new IllegalStateException("the buffer would have too many characters");
        }
        for (int shift = 24; shift >= 0; shift -= 8) {
            int sign = (packed >>> shift) & 255;
            if (sign != 0) {
                reader.addSign((char) sign);
            }
        }
        return reader.length;
    }

    public int load() throws IllegalArgumentException, IllegalStateException {
        boolean faultless = reader.readText();
        fault = faultless ? NONE : reader.position;
        reader.length = 0;
        if (!faultless) {
            throw new IllegalArgumentException("the text has a fault");
        }
        Program fresh = spareProgram();
        if (!fresh.build(reader)) {
            throw new IllegalStateException("there are too many statements or nodes");
        }
        fresh.classify(chainWalk);
        switchTo(fresh);
        return program.statementCount;
    }

    public int faultPosition() {
        return fault;
    }

    public int statements() {
        return program.statementCount;
    }

    public int setMode(int mode) throws IllegalArgumentException {
        if (mode != 0 && mode != 1) {
            throw new IllegalArgumentException("there is no such mode");
        }
        int previous = data.mode;
        data.mode = mode;
        return previous;
    }

    public int setCount(int n) throws IllegalArgumentException {
        if (n < 0 || n > MAX_COUNT) {
            throw new IllegalArgumentException("the number of iterations is out of range");
        }
        int previous = data.count;
        data.count = n;
        return previous;
    }

    public int setElement(int array, int index, int value) throws IndexOutOfBoundsException, IllegalArgumentException {
        checkElement(array, index);
        if (value < -MAX_VALUE || value > MAX_VALUE) {
            throw new IllegalArgumentException("the value is out of range");
        }
        int previous = data.elements[array][index];
        data.elements[array][index] = value;
        return previous;
    }

    public int fill(int array, int seed) throws IndexOutOfBoundsException {
        checkElement(array, 0);
        int z = seed;
        int sum = 0;
        for (int index = 0; index < ELEMENTS; index++) {
            z = z * 1664525 + 1013904223;
            int value = (z >>> 8) % 199 - 99;
            data.elements[array][index] = value;
            sum += value;
        }
        return sum;
    }

    public int element(int array, int index) throws IndexOutOfBoundsException {
        checkElement(array, index);
        return data.elements[array][index];
    }

    public int setInitial(int variable, int value) throws IndexOutOfBoundsException, IllegalArgumentException {
        checkVariable(variable);
        if (value < -MAX_INITIAL || value > MAX_INITIAL) {
            throw new IllegalArgumentException("the value is out of range");
        }
        int previous = data.initials[variable];
        data.initials[variable] = value;
        return previous;
    }

    // ---- Analysis

    public int kind(int variable) throws IndexOutOfBoundsException {
        checkVariable(variable);
        return program.kinds[variable];
    }

    public int operator(int variable) throws IndexOutOfBoundsException, UnsupportedOperationException {
        checkVariable(variable);
        checkChain(variable);
        return program.chainOperators[variable];
    }

    public int terms(int variable) throws IndexOutOfBoundsException, UnsupportedOperationException {
        checkVariable(variable);
        checkChain(variable);
        return program.chainTerms[variable];
    }

    public int depends(int variable) throws IndexOutOfBoundsException {
        checkVariable(variable);
        return program.masks[variable];
    }

    public int nodes(int variable) throws IndexOutOfBoundsException {
        checkVariable(variable);
        return program.lengths[variable];
    }

    public int height(int variable) throws IndexOutOfBoundsException {
        checkVariable(variable);
        return heightWalk.heightOf(program.ends[variable], program.lengths[variable]);
    }

    public int open(int variable) throws IndexOutOfBoundsException {
        checkVariable(variable);
        cursorVariable = variable;
        cursorPosition = 0;
        return program.lengths[variable];
    }

    public boolean hasNext() throws IllegalStateException {
        checkCursor();
        return cursorPosition < program.lengths[cursorVariable];
    }

    public int next() throws IllegalStateException, NoSuchElementException {
        checkCursor();
        if (cursorPosition >= program.lengths[cursorVariable]) {
            throw new NoSuchElementException("there is no further node");
        }
        int code = program.ends[cursorVariable][cursorPosition];
        cursorPosition++;
        return code;
    }

    public boolean isParallel() {
        return program.parallel;
    }

    public boolean isExact(int variable) throws IndexOutOfBoundsException {
        checkVariable(variable);
        int kind = program.kinds[variable];
        if (kind == REDUCTION) {
            int code = OPERATOR + program.chainOperators[variable];
            return data.mode == 0 || code == MIN || code == MAX;
        }
        return kind == UNASSIGNED || kind == PRIVATE;
    }

    // ---- Execution

    public int execute(int order, int width)
            throws IllegalArgumentException, UnsupportedOperationException, IllegalStateException {
        checkOrder(order, width);
        checkOperators();
        checkParallel(order);
        Machine machine = machineOfMode();
        machine.runOrder(program, order, width);
        resultMode = data.mode;
        return machine.countChanged();
    }

    public int result(int variable) throws IndexOutOfBoundsException, IllegalStateException {
        checkVariable(variable);
        if (resultMode != 0) {
            throw new IllegalStateException("no ints are kept as results");
        }
        return intMachine.rows[Machine.KEPT][variable];
    }

    public float resultFloat(int variable) throws IndexOutOfBoundsException, IllegalStateException {
        checkVariable(variable);
        if (resultMode != 1) {
            throw new IllegalStateException("no floats are kept as results");
        }
        return floatMachine.rows[Machine.KEPT][variable];
    }

    public double difference(int variable)
            throws IndexOutOfBoundsException, IllegalStateException, UnsupportedOperationException {
        checkVariable(variable);
        if (resultMode == NONE || resultMode != data.mode) {
            throw new IllegalStateException("no results of this mode are kept");
        }
        checkOperators();
        Machine machine = machineOfMode();
        machine.runSequence(program, Machine.COMPARED);
        double gap = machine.valueOf(Machine.KEPT, variable) - machine.valueOf(Machine.COMPARED, variable);
        return gap > 0.0 ? gap : 0.0 - gap;
    }

    public int cost(int order, int width) throws IllegalArgumentException, IllegalStateException {
        checkOrder(order, width);
        checkParallel(order);
        return unitsOf(order, width);
    }

    public int cheapest() {
        int best = 0;
        if (!program.parallel) {
            return best;
        }
        int least = unitsOf(SEQUENTIAL, 0);
        for (int order = LANES; order <= TREE; order++) {
            for (int width = 2; width <= MAX_WIDTH; width *= 2) {
                int units = unitsOf(order, width);
                if (units < least) {
                    least = units;
                    best = order == TREE ? 10 * TREE : 10 * order + width;
                }
            }
        }
        return best;
    }

    // ---- Snapshot

    public void save() {
        savedProgram = program;
        savedData.copyFrom(data);
    }

    public void restore() throws IllegalStateException {
        if (savedProgram == null) {
            throw new IllegalStateException("there is no snapshot");
        }
        data.copyFrom(savedData);
        switchTo(savedProgram);
    }

    // ---- Conditions

    private static void checkVariable(int variable) {
        if (variable < 0 || variable >= VARIABLES) {
            throw new IndexOutOfBoundsException("there is no such variable");
        }
    }

    private static void checkElement(int array, int index) {
        if (array < 0 || array >= ARRAYS || index < 0 || index >= ELEMENTS) {
            throw new IndexOutOfBoundsException("there is no such array or index");
        }
    }

    private void checkChain(int variable) {
        int kind = program.kinds[variable];
        if (kind != REDUCTION && kind != SCAN) {
            throw new UnsupportedOperationException("the variable has no chain");
        }
    }

    private void checkCursor() {
        if (cursorVariable == NONE) {
            throw new IllegalStateException("no cursor is open");
        }
    }

    private static void checkOrder(int order, int width) {
        if (order < SEQUENTIAL || order > TREE) {
            throw new IllegalArgumentException("there is no such order");
        }
        if ((order == LANES || order == BLOCKS) && (width < 1 || width > MAX_WIDTH)) {
            throw new IllegalArgumentException("the width is out of range");
        }
    }

    private void checkOperators() {
        if (data.mode == 1 && program.bitwise) {
            throw new UnsupportedOperationException("a statement has an operator for ints only");
        }
    }

    private void checkParallel(int order) {
        if (order != SEQUENTIAL && !program.parallel) {
            throw new IllegalStateException("the loop is not parallel");
        }
    }

    // ---- Helpers

    private Program spareProgram() {
        for (int slot = 0; slot < PROGRAM_SLOTS - 1; slot++) {
            if (programs[slot] != program && programs[slot] != savedProgram) {
                return programs[slot];
            }
        }
        return programs[PROGRAM_SLOTS - 1];
    }

    private void switchTo(Program other) {
        program = other;
        cursorVariable = NONE;
        resultMode = NONE;
    }

    private Machine machineOfMode() {
        if (data.mode == 0) {
            return intMachine;
        }
        return floatMachine;
    }

    private int unitsOf(int order, int width) {
        int operations = program.operations;
        if (data.count == 0) {
            return 0;
        }
        if (order == SEQUENTIAL) {
            return data.count * operations;
        }
        if (order == TREE) {
            return operations + program.reductions * (treeRows(data.count) + 1);
        }
        return quotientUp(data.count, width) * operations + program.reductions * width;
    }

    private static int treeRows(int count) {
        int rows = 0;
        for (int left = count; left > 1; left = (left + 1) / 2) {
            rows++;
        }
        return rows;
    }

    private static int quotientUp(int dividend, int divisor) {
        return divisor < 1 ? 0 : (dividend + divisor - 1) / divisor;
    }

    private static boolean isStart(int code) {
        return code >= START && code < START + VARIABLES;
    }

    private static int operandsOf(int code) {
        if (code < OPERATOR) {
            return 0;
        }
        return code == CHOICE ? 3 : 2;
    }

    /** The elements, the initial values and what else belongs to a snapshot beside the statements. */
    private static final class Data {
        private int mode = 0;
        private int count = 0;
        private final int[][] elements = new int[ARRAYS][ELEMENTS];
        private final int[] initials = new int[VARIABLES];

        private void copyFrom(Data other) {
            mode = other.mode;
            count = other.count;
            for (int array = 0; array < ARRAYS; array++) {
                System.arraycopy(other.elements[array], 0, elements[array], 0, ELEMENTS);
            }
            System.arraycopy(other.initials, 0, initials, 0, VARIABLES);
        }
    }

    /**
     * Holds the buffer and reads it. Each reading method answers whether the text goes on as it should, and never
     * goes past a character that cannot continue a text: after a failure the position is the fault position.
     */
    private static final class Reader {
        private static final int FACTOR = 3;
        private static final char END = 0;

        private final char[] text = new char[MAX_TEXT];
        private int length = 0;
        private int position = 0;

        // The expressions of all statements, one after the other, and where each of them stops.
        // A text has fewer nodes and statements than characters.
        private final int[] codes = new int[MAX_TEXT];
        private int codeCount = 0;
        private final int[] targets = new int[MAX_TEXT];
        private final int[] stops = new int[MAX_TEXT];
        private int statementCount = 0;

        private void addSign(char sign) {
            if (length < MAX_TEXT) {
                text[length] = sign;
                length++;
            }
        }

        private boolean readText() {
            position = 0;
            codeCount = 0;
            statementCount = 0;
            for (int tries = 0; tries < MAX_TEXT; tries++) {
                if (!readStatement()) {
                    return false;
                }
                if (position >= length) {
                    return true;
                }
            }
            return false;
        }

        private boolean readStatement() {
            char letter = peek();
            if (!isVariable(letter)) {
                return false;
            }
            position++;
            if (!take('=') || !readLevel(0, 0) || !take(';')) {
                return false;
            }
            if (statementCount < MAX_TEXT) {
                targets[statementCount] = letter - 's';
                stops[statementCount] = codeCount;
                statementCount++;
            }
            return true;
        }

        /** Reads an expression, a sum, a product or a factor: the levels 0 to 3. */
        private boolean readLevel(int level, int depth) {
            if (level >= FACTOR) {
                return readFactor(depth);
            }
            int from = codeCount;
            if (!readLevel(level + 1, depth)) {
                return false;
            }
            while (position < length && levelOf(codeOf(text[position])) == level) {
                insertCode(from, codeOf(text[position]));
                position++;
                if (!readLevel(level + 1, depth)) {
                    return false;
                }
            }
            return true;
        }

        private boolean readFactor(int depth) {
            char sign = peek();
            if (isDigit(sign)) {
                return readNumber();
            }
            if (isVariable(sign)) {
                position++;
                addCode(START + sign - 's');
                return true;
            }
            if (sign >= 'a' && sign <= 'c') {
                position++;
                addCode(ELEMENT + sign - 'a');
                return take('[') && take('i') && take(']');
            }
            if (sign == '(') {
                return depth < MAX_PARENTHESES && take('(') && readLevel(0, depth + 1) && take(')');
            }
            int code = readName();
            return code != NONE && readFunction(code, depth);
        }

        private boolean readNumber() {
            int number = peek() - '0';
            position++;
            char sign = peek();
            if (number != 0 && isDigit(sign)) {
                number = 10 * number + sign - '0';
                position++;
            }
            addCode(number);
            return true;
        }

        private int readName() {
            if (take('i')) {
                return take('f') ? CHOICE : NONE;
            }
            if (!take('m')) {
                return NONE;
            }
            if (take('i')) {
                return take('n') ? MIN : NONE;
            }
            return take('a') && take('x') ? MAX : NONE;
        }

        private boolean readFunction(int code, int depth) {
            if (depth >= MAX_PARENTHESES || !take('(')) {
                return false;
            }
            addCode(code);
            int operands = operandsOf(code);
            for (int operand = 0; operand < operands; operand++) {
                if (operand > 0 && !take(',')) {
                    return false;
                }
                if (!readLevel(0, depth + 1)) {
                    return false;
                }
            }
            return take(')');
        }

        private char peek() {
            return position < length ? text[position] : END;
        }

        private boolean take(char sign) {
            if (position < length && text[position] == sign) {
                position++;
                return true;
            }
            return false;
        }

        private void addCode(int code) {
            if (codeCount < MAX_TEXT) {
                codes[codeCount] = code;
                codeCount++;
            }
        }

        /** An operator is known after its left operand only, but stands before it. */
        private void insertCode(int from, int code) {
            if (codeCount < MAX_TEXT && from >= 0 && from <= codeCount) {
                System.arraycopy(codes, from, codes, from + 1, codeCount - from);
                codes[from] = code;
                codeCount++;
            }
        }

        private static boolean isVariable(char sign) {
            return sign >= 's' && sign <= 'z';
        }

        private static boolean isDigit(char sign) {
            return sign >= '0' && sign <= '9';
        }

        private static int codeOf(char sign) {
            if (sign == '&') {
                return AND;
            }
            if (sign == '|') {
                return OR;
            }
            if (sign == '^') {
                return XOR;
            }
            if (sign == '+') {
                return PLUS;
            }
            if (sign == '-') {
                return MINUS;
            }
            return sign == '*' ? TIMES : NONE;
        }

        private static int levelOf(int code) {
            if (code == AND || code == OR || code == XOR) {
                return 0;
            }
            if (code == PLUS || code == MINUS) {
                return 1;
            }
            return code == TIMES ? 2 : NONE;
        }
    }

    /** The statements, the end expressions that follow from them, and what these say about the variables. */
    private static final class Program {
        private final int[] codes = new int[MAX_TEXT];
        private final int[] targets = new int[MAX_STATEMENTS];
        private final int[] stops = new int[MAX_STATEMENTS];
        private int statementCount = 0;
        private int operations = 0;
        private boolean bitwise = false;

        private final int[][] ends = new int[VARIABLES][MAX_NODES];
        private final int[] lengths = new int[VARIABLES];
        private final int[] draft = new int[MAX_NODES];

        private final boolean[] assigned = new boolean[VARIABLES];
        private final int[] masks = new int[VARIABLES];
        private final int[] kinds = new int[VARIABLES];
        private final int[] chainOperators = new int[VARIABLES];
        private final int[] chainTerms = new int[VARIABLES];
        private int reductions = 0;
        private boolean parallel = true;

        private Program() {
            for (int variable = 0; variable < VARIABLES; variable++) {
                ends[variable][0] = START + variable;
                lengths[variable] = 1;
                masks[variable] = 1 << variable;
            }
        }

        /** Answers whether all limits are kept; if not, the program is unfit for use until it is built anew. */
        private boolean build(Reader reader) {
            if (reader.statementCount > MAX_STATEMENTS) {
                return false;
            }
            copyStatements(reader);
            countOperations(reader.codeCount);
            for (int variable = 0; variable < VARIABLES; variable++) {
                ends[variable][0] = START + variable;
                lengths[variable] = 1;
                assigned[variable] = false;
            }
            for (int statement = 0; statement < statementCount; statement++) {
                if (!assign(statement)) {
                    return false;
                }
            }
            return true;
        }

        private void copyStatements(Reader reader) {
            statementCount = reader.statementCount;
            System.arraycopy(reader.targets, 0, targets, 0, MAX_STATEMENTS);
            System.arraycopy(reader.stops, 0, stops, 0, MAX_STATEMENTS);
            System.arraycopy(reader.codes, 0, codes, 0, MAX_TEXT);
        }

        private void countOperations(int codeCount) {
            operations = 0;
            bitwise = false;
            for (int at = 0; at < codeCount && at < MAX_TEXT; at++) {
                int code = codes[at];
                if (operandsOf(code) > 0) {
                    operations++;
                }
                if (code == AND || code == OR || code == XOR) {
                    bitwise = true;
                }
            }
        }

        private int firstCodeOf(int statement) {
            return statement > 0 && statement <= MAX_STATEMENTS ? stops[statement - 1] : 0;
        }

        /** The draft is needed because the expression may contain the old one of the same variable. */
        private boolean assign(int statement) {
            int drafted = 0;
            int stop = stops[statement];
            for (int at = firstCodeOf(statement); at < stop && at < MAX_TEXT; at++) {
                int code = codes[at];
                int added = isStart(code) ? lengths[code - START] : 1;
                if (drafted + added > MAX_NODES) {
                    return false;
                }
                if (isStart(code)) {
                    System.arraycopy(ends[code - START], 0, draft, drafted, added);
                } else {
                    draft[drafted] = code;
                }
                drafted += added;
            }
            int target = targets[statement];
            System.arraycopy(draft, 0, ends[target], 0, drafted);
            lengths[target] = drafted;
            assigned[target] = true;
            return true;
        }

        private void classify(ChainWalk chainWalk) {
            for (int variable = 0; variable < VARIABLES; variable++) {
                masks[variable] = maskOf(variable);
            }
            reductions = 0;
            parallel = true;
            for (int variable = 0; variable < VARIABLES; variable++) {
                int kind = kindOf(variable, chainWalk);
                kinds[variable] = kind;
                if (kind == REDUCTION) {
                    reductions++;
                }
                if (kind == SCAN || kind == OTHER) {
                    parallel = false;
                }
            }
        }

        private int maskOf(int variable) {
            int mask = 0;
            for (int at = 0; at < lengths[variable] && at < MAX_NODES; at++) {
                int code = ends[variable][at];
                if (isStart(code)) {
                    mask |= 1 << (code - START);
                }
            }
            return mask;
        }

        private int kindOf(int variable, ChainWalk chainWalk) {
            if (!assigned[variable]) {
                return UNASSIGNED;
            }
            boolean inOwn = (masks[variable] >> variable & 1) != 0;
            boolean inOthers = occursInOthers(variable);
            if (!inOwn && !inOthers) {
                return PRIVATE;
            }
            if (!findChain(variable, chainWalk)) {
                return OTHER;
            }
            return inOthers ? SCAN : REDUCTION;
        }

        private boolean occursInOthers(int variable) {
            for (int other = 0; other < VARIABLES; other++) {
                if (other != variable && assigned[other] && (masks[other] >> variable & 1) != 0) {
                    return true;
                }
            }
            return false;
        }

        private boolean findChain(int variable, ChainWalk chainWalk) {
            for (int operator = 0; operator < OPERATORS; operator++) {
                int terms = chainWalk.countTerms(
                        ends[variable], lengths[variable], START + variable, OPERATOR + operator);
                if (terms >= 0) {
                    chainOperators[variable] = operator;
                    chainTerms[variable] = terms;
                    return true;
                }
            }
            return false;
        }
    }

    /**
     * Goes through an expression from its last node to its first, with a stack in slots: when an operator or a
     * function comes, its operands are the topmost slots, the first operand on top.
     */
    private abstract static class Walk {
        abstract void putLeaf(int slot, int code);

        /** Joins x in the slot above and y in this slot. */
        abstract void joinPair(int slot, int code);

        /** Joins x in the second slot above, y in the slot above and z in this slot. */
        abstract void joinChoice(int slot);

        final void walk(int[] codes, int from, int stop) {
            int top = 0;
            int last = Math.min(stop, codes.length) - 1;
            for (int at = last; at >= from && at >= 0; at--) {
                int code = codes[at];
                int operands = operandsOf(code);
                if (operands == 0 && top < MAX_NODES) {
                    putLeaf(top, code);
                    top++;
                } else if (operands == 2 && top >= 2) {
                    top--;
                    joinPair(top - 1, code);
                } else if (operands == 3 && top >= 3) {
                    top -= 2;
                    joinChoice(top - 1);
                }
            }
        }
    }

    private static final class HeightWalk extends Walk {
        private final int[] slots = new int[MAX_NODES];

        private int heightOf(int[] codes, int length) {
            walk(codes, 0, length);
            return slots[0];
        }

        void putLeaf(int slot, int code) {
            slots[slot] = 1;
        }

        void joinPair(int slot, int code) {
            slots[slot] = 1 + Math.max(slots[slot], slots[slot + 1]);
        }

        void joinChoice(int slot) {
            slots[slot] = 1 + Math.max(slots[slot], Math.max(slots[slot + 1], slots[slot + 2]));
        }
    }

    /** Finds whether an expression is a chain: a slot holds its number of terms, or why it is none. */
    private static final class ChainWalk extends Walk {
        private static final int BROKEN = -1;
        private static final int FREE = -2;

        private final int[] slots = new int[MAX_NODES];
        private int startCode = START;
        private int operatorCode = PLUS;

        /** Answers a negative number if the expression is not a chain. */
        private int countTerms(int[] codes, int length, int start, int operator) {
            startCode = start;
            operatorCode = operator;
            walk(codes, 0, length);
            return slots[0];
        }

        void putLeaf(int slot, int code) {
            slots[slot] = code == startCode ? 0 : FREE;
        }

        void joinPair(int slot, int code) {
            int x = slots[slot + 1];
            int y = slots[slot];
            boolean minus = code == MINUS && operatorCode == PLUS;
            if (x == FREE && y == FREE) {
                slots[slot] = FREE;
            } else if (x >= 0 && y == FREE && (code == operatorCode || minus)) {
                slots[slot] = x + 1;
            } else if (x == FREE && y >= 0 && code == operatorCode) {
                slots[slot] = y + 1;
            } else {
                slots[slot] = BROKEN;
            }
        }

        void joinChoice(int slot) {
            int x = slots[slot + 2];
            int y = slots[slot + 1];
            int z = slots[slot];
            if (x == FREE && y == FREE && z == FREE) {
                slots[slot] = FREE;
            } else if (x == FREE && y >= 0 && z >= 0) {
                slots[slot] = y + z;
            } else {
                slots[slot] = BROKEN;
            }
        }
    }

    /** Executes loops on rows of values, one value for each variable; what the values are is left to the machines. */
    private abstract static class Machine extends Walk {
        // Each partial execution has a row of its own, from 0.
        private static final int KEPT = MAX_COUNT;
        private static final int COMPARED = MAX_COUNT + 1;
        private static final int ROWS = MAX_COUNT + 2;

        private final Data data;
        private int row = KEPT;
        private int iteration = 0;

        private Machine(Data data) {
            this.data = data;
        }

        abstract void setInitialValue(int target, int variable, int initial);

        abstract void setNeutral(int target, int variable, int code);

        abstract void combine(int target, int source, int variable, int code);

        abstract void copyValue(int target, int source, int variable);

        /** Takes the value of the expression that was walked through. */
        abstract void storeValue(int target, int variable);

        abstract double valueOf(int target, int variable);

        final int rowNow() {
            return row;
        }

        final int constantOf(int code) {
            boolean element = code >= ELEMENT && code < ELEMENT + ARRAYS;
            return element ? data.elements[code - ELEMENT][iteration] : code;
        }

        private int countChanged() {
            int changed = 0;
            for (int variable = 0; variable < VARIABLES; variable++) {
                if (valueOf(KEPT, variable) != (double) data.initials[variable]) {
                    changed++;
                }
            }
            return changed;
        }

        private void runOrder(Program program, int order, int width) {
            if (order == SEQUENTIAL || data.count == 0) {
                runSequence(program, KEPT);
                return;
            }
            int parts = order == TREE ? data.count : Math.min(width, MAX_WIDTH);
            for (int part = 0; part < parts; part++) {
                runPart(program, order, part, parts);
            }
            beginRow(KEPT);
            runIteration(program, KEPT, data.count - 1);
            if (order == TREE) {
                joinTree(program, parts);
                joinParts(program, 1);
            } else {
                joinParts(program, parts);
            }
        }

        private void runSequence(Program program, int target) {
            beginRow(target);
            for (int i = 0; i < data.count; i++) {
                runIteration(program, target, i);
            }
        }

        private void runPart(Program program, int order, int part, int parts) {
            beginRow(part);
            for (int variable = 0; variable < VARIABLES; variable++) {
                if (program.kinds[variable] == REDUCTION) {
                    setNeutral(part, variable, OPERATOR + program.chainOperators[variable]);
                }
            }
            int share = quotientUp(data.count, parts);
            // An iteration of its own for each part is a lane of as many parts as there are iterations.
            int from = order == BLOCKS ? part * share : part;
            int stop = order == BLOCKS ? Math.min(from + share, data.count) : data.count;
            int stride = order == BLOCKS ? 1 : Math.max(parts, 1);
            for (int i = from; i < stop; i += stride) {
                runIteration(program, part, i);
            }
        }

        private void joinTree(Program program, int parts) {
            for (int left = parts; left > 1; left = (left + 1) / 2) {
                for (int pair = 0; pair < left / 2; pair++) {
                    copyReductions(program, pair, 2 * pair);
                    combineReductions(program, pair, 2 * pair + 1);
                }
                if (left % 2 == 1) {
                    copyReductions(program, left / 2, left - 1);
                }
            }
        }

        private void joinParts(Program program, int parts) {
            for (int variable = 0; variable < VARIABLES; variable++) {
                if (program.kinds[variable] == REDUCTION) {
                    setInitialValue(KEPT, variable, data.initials[variable]);
                }
            }
            for (int part = 0; part < parts; part++) {
                combineReductions(program, KEPT, part);
            }
        }

        private void combineReductions(Program program, int target, int source) {
            for (int variable = 0; variable < VARIABLES; variable++) {
                if (program.kinds[variable] == REDUCTION) {
                    combine(target, source, variable, OPERATOR + program.chainOperators[variable]);
                }
            }
        }

        private void copyReductions(Program program, int target, int source) {
            for (int variable = 0; variable < VARIABLES; variable++) {
                if (program.kinds[variable] == REDUCTION) {
                    copyValue(target, source, variable);
                }
            }
        }

        private void beginRow(int target) {
            for (int variable = 0; variable < VARIABLES; variable++) {
                setInitialValue(target, variable, data.initials[variable]);
            }
        }

        private void runIteration(Program program, int target, int i) {
            row = target;
            iteration = i;
            for (int statement = 0; statement < program.statementCount; statement++) {
                walk(program.codes, program.firstCodeOf(statement), program.stops[statement]);
                storeValue(target, program.targets[statement]);
            }
        }
    }

    private static final class IntMachine extends Machine {
        private final int[][] rows = new int[Machine.ROWS][VARIABLES];
        private final int[] slots = new int[MAX_NODES];

        private IntMachine(Data data) {
            super(data);
        }

        void putLeaf(int slot, int code) {
            slots[slot] = isStart(code) ? rows[rowNow()][code - START] : constantOf(code);
        }

        void joinPair(int slot, int code) {
            slots[slot] = calculate(code, slots[slot + 1], slots[slot]);
        }

        void joinChoice(int slot) {
            slots[slot] = slots[slot + 2] > 0 ? slots[slot + 1] : slots[slot];
        }

        void setInitialValue(int target, int variable, int initial) {
            rows[target][variable] = initial;
        }

        void setNeutral(int target, int variable, int code) {
            rows[target][variable] = neutralOf(code);
        }

        void combine(int target, int source, int variable, int code) {
            rows[target][variable] = calculate(code, rows[target][variable], rows[source][variable]);
        }

        void copyValue(int target, int source, int variable) {
            rows[target][variable] = rows[source][variable];
        }

        void storeValue(int target, int variable) {
            rows[target][variable] = slots[0];
        }

        double valueOf(int target, int variable) {
            return (double) rows[target][variable];
        }

        private static int neutralOf(int code) {
            switch (code) {
                case TIMES:
                    return 1;
                case AND:
                    return -1;
                case MIN:
                    return 2147483647;
                case MAX:
                    return -2147483648;
                default:
                    return 0;
            }
        }

        private static int calculate(int code, int x, int y) {
            switch (code) {
                case PLUS:
                    return x + y;
                case MINUS:
                    return x - y;
                case TIMES:
                    return x * y;
                case AND:
                    return x & y;
                case OR:
                    return x | y;
                case XOR:
                    return x ^ y;
                case MIN:
                    return Math.min(x, y);
                default:
                    return Math.max(x, y);
            }
        }
    }

    private static final class FloatMachine extends Machine {
        private final float[][] rows = new float[Machine.ROWS][VARIABLES];
        private final float[] slots = new float[MAX_NODES];

        private FloatMachine(Data data) {
            super(data);
        }

        void putLeaf(int slot, int code) {
            slots[slot] = isStart(code) ? rows[rowNow()][code - START] : (float) constantOf(code);
        }

        void joinPair(int slot, int code) {
            slots[slot] = calculate(code, slots[slot + 1], slots[slot]);
        }

        void joinChoice(int slot) {
            slots[slot] = slots[slot + 2] > 0.0f ? slots[slot + 1] : slots[slot];
        }

        void setInitialValue(int target, int variable, int initial) {
            rows[target][variable] = (float) initial;
        }

        void setNeutral(int target, int variable, int code) {
            rows[target][variable] = neutralOf(code);
        }

        void combine(int target, int source, int variable, int code) {
            rows[target][variable] = calculate(code, rows[target][variable], rows[source][variable]);
        }

        void copyValue(int target, int source, int variable) {
            rows[target][variable] = rows[source][variable];
        }

        void storeValue(int target, int variable) {
            rows[target][variable] = slots[0];
        }

        double valueOf(int target, int variable) {
            return (double) rows[target][variable];
        }

        private static float neutralOf(int code) {
            switch (code) {
                case TIMES:
                    return 1.0f;
                case MIN:
                    return 1.0e30f;
                case MAX:
                    return -1.0e30f;
                default:
                    return 0.0f;
            }
        }

        private static float calculate(int code, float x, float y) {
            if (code == MIN) {
                return x <= y ? x : y;
            }
            if (code == MAX) {
                return x >= y ? x : y;
            }
            float value = code == TIMES ? x * y : code == MINUS ? x - y : x + y;
            if (value > 1.0e30f) {
                return 1.0e30f;
            }
            return value < -1.0e30f ? -1.0e30f : value;
        }
    }
}
