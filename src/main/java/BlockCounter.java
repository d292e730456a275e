import java.util.Arrays;

/**
 * Finds the blocks of a program in its bytes, and rewrites it where it stands, so that it counts
 * how often each block runs.
 */
public final class BlockCounter {
    private static final int CODE_SIZE = 96;
    private static final int MEMORY_SIZE = 256;
    private static final int REGISTER_COUNT = 4;
    private static final int CELL_COUNT = 16;
    private static final int COUNTER_COUNT = 64;
    private static final int MAX_STEPS = 3000;

    private static final int GOES_ON = 0;
    private static final int HALTED = 1;
    private static final int FAULTED = 2;

    private final Program original;
    private final Tables tables;
    private final int[] startCells;
    private final Analysis analysis;
    private final Rewriting rewriting;
    private final Machine machine;

    public BlockCounter() {
        original = new Program();
        tables = new Tables();
        startCells = new int[CELL_COUNT];
        analysis = new Analysis();
        rewriting = new Rewriting();
        machine = new Machine();
    }

    public void poke(int address, int value) throws IndexOutOfBoundsException {
        if (address < 0 || address >= CODE_SIZE) {
            throw new IndexOutOfBoundsException("no such address in the code");
        }
        original.put(address, value);
        forgetFindings();
    }

    public int declare(int base, int count) throws IllegalArgumentException, IllegalStateException {
        // Written so that no sum of the two arguments can wrap around.
        if (count < 1 || count > CODE_SIZE || base < 0 || base > CODE_SIZE - count) {
            throw new IllegalArgumentException("the table does not lie in the code");
        }
        if (tables.isFull()) {
            throw new IllegalStateException("there are four tables");
        }
        tables.add(base, count);
        forgetFindings();
        return tables.size();
    }

    public void data(int cell, int value) throws IndexOutOfBoundsException {
        if (cell < 0 || cell >= CELL_COUNT) {
            throw new IndexOutOfBoundsException("no such cell");
        }
        startCells[cell] = value;
    }

    public int analyse() throws UnsupportedOperationException {
        rewriting.forget();
        if (!analysis.explore(original, tables)) {
            throw new UnsupportedOperationException("the program is refused");
        }
        return analysis.size();
    }

    public int block(int k, int what) throws IndexOutOfBoundsException, IllegalArgumentException {
        if (k < 0 || k >= analysis.size()) {
            throw new IndexOutOfBoundsException("no such block");
        }
        switch (what) {
            case 0:
                return analysis.headOf(k);
            case 1:
                return analysis.bytesOf(k);
            case 2:
                return analysis.instructionsOf(k);
            default:
                throw new IllegalArgumentException("no such fact of a block");
        }
    }

    public int blockAt(int address) {
        return analysis.numberAt(address);
    }

    public int rewrite() throws IllegalStateException, UnsupportedOperationException {
        if (!analysis.exists()) {
            throw new IllegalStateException("there is no analysis");
        }
        if (!rewriting.build(original, analysis)) {
            throw new UnsupportedOperationException("the section is too small");
        }
        return rewriting.used();
    }

    public int code(int address, boolean rewritten) throws IndexOutOfBoundsException, IllegalStateException {
        if (address < 0 || address >= MEMORY_SIZE) {
            throw new IndexOutOfBoundsException("no such address in memory");
        }
        if (rewritten && !rewriting.exists()) {
            throw new IllegalStateException("there is no rewritten program");
        }
        return rewritten ? rewriting.result().at(address) : original.at(address);
    }

    public int run(boolean rewritten, int steps) throws IllegalArgumentException, IllegalStateException {
        if (steps < 0 || steps > MAX_STEPS) {
            throw new IllegalArgumentException("not 0 to 3000 steps");
        }
        if (rewritten && !rewriting.exists()) {
            throw new IllegalStateException("there is no rewritten program");
        }
        machine.start(startCells);
        if (rewritten) {
            return machine.execute(rewriting.result(), steps);
        }
        return machine.executeWatched(original, steps, analysis);
    }

    public int steps() {
        return machine.done();
    }

    public int register(int i) throws IndexOutOfBoundsException {
        if (i >= 0 && i < REGISTER_COUNT) {
            return machine.registerValue(i);
        }
        switch (i) {
            case 4:
                return machine.position();
            case 5:
                return machine.pushed();
            case 6:
                return machine.printed();
            default:
                throw new IndexOutOfBoundsException("no such register");
        }
    }

    public int cell(int i) throws IndexOutOfBoundsException {
        if (i < 0 || i >= CELL_COUNT) {
            throw new IndexOutOfBoundsException("no such cell");
        }
        return machine.cellValue(i);
    }

    public int output(int i) throws IndexOutOfBoundsException {
        if (i < 0 || i >= machine.printed()) {
            throw new IndexOutOfBoundsException("no such number in the output");
        }
        return machine.printedValue(i);
    }

    public long counter(int k) throws IndexOutOfBoundsException {
        if (k < 0 || k >= COUNTER_COUNT) {
            throw new IndexOutOfBoundsException("no such counter");
        }
        return machine.count(k);
    }

    private void forgetFindings() {
        analysis.forget();
        rewriting.forget();
    }

    /** The bytes of a program, and where its traps go. */
    private static final class Program {
        static final int NO_TRAP = -1;

        private final int[] bytes;
        private final int[] traps;

        Program() {
            bytes = new int[MEMORY_SIZE];
            traps = new int[CODE_SIZE];
        }

        int at(int address) {
            return address >= 0 && address < MEMORY_SIZE ? bytes[address] : 0;
        }

        void put(int address, int value) {
            if (address >= 0 && address < MEMORY_SIZE) {
                bytes[address] = value & 0xFF;
            }
        }

        int trapAt(int address) {
            // New code never lies at 0, so a 0 can stand for a trap that is not there.
            if (address < 0 || address >= CODE_SIZE || traps[address] == 0) {
                return NO_TRAP;
            }
            return traps[address];
        }

        void putTrap(int address, int destination) {
            if (address >= 0 && address < CODE_SIZE) {
                traps[address] = destination;
            }
        }

        void becomeCopyOf(Program other) {
            System.arraycopy(other.bytes, 0, bytes, 0, MEMORY_SIZE);
            System.arraycopy(other.traps, 0, traps, 0, CODE_SIZE);
        }
    }

    /** The tables that were declared. */
    private static final class Tables {
        private static final int MOST = 4;

        private final int[] bases;
        private final int[] counts;
        private int declared;

        Tables() {
            bases = new int[MOST];
            counts = new int[MOST];
        }

        int size() {
            return declared;
        }

        boolean isFull() {
            return declared >= MOST;
        }

        void add(int base, int count) {
            if (!isFull()) {
                bases[declared] = base;
                counts[declared] = count;
                declared++;
            }
        }

        boolean has(int base, int count) {
            for (int i = 0; i < declared; i++) {
                if (bases[i] == base && counts[i] == count) {
                    return true;
                }
            }
            return false;
        }
    }

    /** One instruction of a program: a window that is moved over it, so that none is made anew. */
    private static final class Instruction {
        // A kind is the first of the bytes that say it.
        static final int NONE = -1;
        static final int HALT = 0;
        static final int NOTHING = 1;
        static final int TRAP = 2;
        static final int RETURN = 3;
        static final int UP = 4;
        static final int DOWN = 8;
        static final int PRINT = 12;
        static final int ADD = 16;
        static final int SUBTRACT = 32;
        static final int SET = 48;
        static final int LOAD = 52;
        static final int STORE = 56;
        static final int IF_ZERO = 60;
        static final int IF_BELOW = 64;
        static final int BRANCH = 68;
        static final int JUMP = 69;
        static final int CALL = 70;
        static final int SWITCH = 72;
        static final int COUNT = 76;
        static final int PUSH_AND_JUMP = 77;

        private int address;
        int first;
        int kind;
        int n;
        int m;

        /** False if there is no instruction, or it does not lie below the limit. */
        boolean read(Program program, int from, int limit) {
            if (from < 0 || from >= limit) {
                return false;
            }
            address = from;
            first = program.at(from);
            kind = kindOf(first);
            if (kind == NONE || behind() > limit) {
                return false;
            }
            n = program.at(from + 1);
            m = program.at(from + 2);
            return true;
        }

        private static int kindOf(int first) {
            if (first < UP || (first >= BRANCH && first <= CALL) || first == COUNT || first == PUSH_AND_JUMP) {
                return first;
            }
            if (first >= ADD && first < SET) {
                return first < SUBTRACT ? ADD : SUBTRACT;
            }
            if (first < BRANCH || (first >= SWITCH && first < COUNT)) {
                return first & ~3;
            }
            return NONE;
        }

        int length() {
            if (kind < SET) {
                return 1;
            }
            return kind == SWITCH || kind == PUSH_AND_JUMP ? 3 : 2;
        }

        int behind() {
            return address + length();
        }

        int branchTarget() {
            return behind() + (byte) n;
        }

        int registerNumber() {
            return kind == ADD || kind == SUBTRACT ? (first >> 2) & 3 : first & 3;
        }

        int otherRegister() {
            return first & 3;
        }

        boolean isConditional() {
            return kind == IF_ZERO || kind == IF_BELOW;
        }

        boolean endsBlock() {
            return kind == HALT || kind == RETURN || (kind >= IF_ZERO && kind <= SWITCH);
        }

        /** Those that only rewriting writes. */
        boolean isOfRewriting() {
            return kind == TRAP || kind == COUNT || kind == PUSH_AND_JUMP;
        }
    }

    /** What the code is made of; without blocks there is no analysis. */
    private static final class Analysis {
        static final int NO_BLOCK = -1;

        private final Instruction instruction;
        private final int[] found;
        private final boolean[] isFound;
        private final boolean[] isHead;
        private final boolean[] isInTable;
        private final int[] numbers;
        private final int[] heads;
        private final int[] byteCounts;
        private final int[] instructionCounts;
        private int foundCount;
        private int blockCount;

        Analysis() {
            instruction = new Instruction();
            found = new int[CODE_SIZE];
            isFound = new boolean[CODE_SIZE];
            isHead = new boolean[CODE_SIZE];
            isInTable = new boolean[CODE_SIZE];
            numbers = new int[CODE_SIZE];
            heads = new int[CODE_SIZE];
            byteCounts = new int[CODE_SIZE];
            instructionCounts = new int[CODE_SIZE];
        }

        void forget() {
            blockCount = 0;
        }

        boolean exists() {
            return blockCount > 0;
        }

        int size() {
            return blockCount;
        }

        int headOf(int number) {
            return number >= 0 && number < blockCount ? heads[number] : 0;
        }

        int bytesOf(int number) {
            return number >= 0 && number < blockCount ? byteCounts[number] : 0;
        }

        int instructionsOf(int number) {
            return number >= 0 && number < blockCount ? instructionCounts[number] : 0;
        }

        int numberAt(int address) {
            return exists() && address >= 0 && address < CODE_SIZE ? numbers[address] : NO_BLOCK;
        }

        /** The block whose head the address is. */
        int numberOfHead(int address) {
            int number = numberAt(address);
            return number != NO_BLOCK && headOf(number) == address ? number : NO_BLOCK;
        }

        /** False if the program is refused. */
        boolean explore(Program program, Tables tables) {
            clear();
            boolean accepted = comeToHead(0);
            for (int i = 0; accepted && i < foundCount && i < CODE_SIZE; i++) {
                accepted = follow(program, tables, found[i]);
            }
            if (accepted && isWithoutOverlap(program)) {
                findBlocks(program);
            }
            return exists();
        }

        private void clear() {
            blockCount = 0;
            foundCount = 0;
            Arrays.fill(numbers, NO_BLOCK);
            for (int i = 0; i < CODE_SIZE; i++) {
                isFound[i] = false;
                isHead[i] = false;
                isInTable[i] = false;
            }
        }

        private boolean comeTo(int address) {
            if (address < 0 || address >= CODE_SIZE) {
                return false;
            }
            if (!isFound[address] && foundCount < CODE_SIZE) {
                isFound[address] = true;
                found[foundCount] = address;
                foundCount++;
            }
            return true;
        }

        private boolean comeToHead(int address) {
            if (!comeTo(address)) {
                return false;
            }
            isHead[address] = true;
            return true;
        }

        private boolean follow(Program program, Tables tables, int address) {
            if (!instruction.read(program, address, CODE_SIZE) || instruction.isOfRewriting()) {
                return false;
            }
            switch (instruction.kind) {
                case Instruction.HALT:
                case Instruction.RETURN:
                    return true;
                case Instruction.IF_ZERO:
                case Instruction.IF_BELOW:
                    return comeToHead(instruction.behind()) && comeToHead(instruction.branchTarget());
                case Instruction.BRANCH:
                    return comeToHead(instruction.branchTarget());
                case Instruction.JUMP:
                    return comeToHead(instruction.n);
                case Instruction.CALL:
                    return comeToHead(instruction.behind()) && comeToHead(instruction.n);
                case Instruction.SWITCH:
                    return tables.has(instruction.n, instruction.m)
                            && followTable(program, instruction.n, instruction.m);
                default:
                    return comeTo(instruction.behind());
            }
        }

        private boolean followTable(Program program, int base, int count) {
            for (int i = base; i < base + count; i++) {
                if (i < 0 || i >= CODE_SIZE || !comeToHead(program.at(i))) {
                    return false;
                }
                isInTable[i] = true;
            }
            return true;
        }

        private boolean isWithoutOverlap(Program program) {
            int free = 0;
            for (int address = 0; address < CODE_SIZE; address++) {
                if (isFound[address]) {
                    if (address < free || !instruction.read(program, address, CODE_SIZE)) {
                        return false;
                    }
                    free = instruction.behind();
                }
                if (address < free && isInTable[address]) {
                    return false;
                }
            }
            return true;
        }

        private void findBlocks(Program program) {
            for (int address = 0; address < CODE_SIZE; address++) {
                if (isHead[address] && blockCount < CODE_SIZE) {
                    addBlock(program, address);
                }
            }
        }

        private void addBlock(Program program, int head) {
            int end = head;
            int count = 0;
            boolean goesOn = true;
            while (goesOn && count < CODE_SIZE && instruction.read(program, end, CODE_SIZE)) {
                end = instruction.behind();
                count++;
                goesOn = !instruction.endsBlock() && end < CODE_SIZE && !isHead[end];
            }
            for (int i = head; i < end && i < CODE_SIZE; i++) {
                numbers[i] = blockCount;
            }
            heads[blockCount] = head;
            byteCounts[blockCount] = end - head;
            instructionCounts[blockCount] = count;
            blockCount++;
        }
    }

    /** The second program, in which the blocks count. */
    private static final class Rewriting {
        private static final int JUMP_SIZE = 2;

        private final Instruction instruction;
        private final Program program;
        private int free;
        private boolean stands;

        Rewriting() {
            instruction = new Instruction();
            program = new Program();
        }

        void forget() {
            stands = false;
        }

        boolean exists() {
            return stands;
        }

        Program result() {
            return program;
        }

        int used() {
            return free - CODE_SIZE;
        }

        /** False if the section is too small. */
        boolean build(Program source, Analysis analysis) {
            program.becomeCopyOf(source);
            free = CODE_SIZE;
            for (int number = 0; number < analysis.size(); number++) {
                int start = free;
                int head = analysis.headOf(number);
                int size = analysis.bytesOf(number);
                append(Instruction.COUNT);
                append(number);
                moveFirst(source, head, Math.min(size, JUMP_SIZE));
                hook(head, size, start);
            }
            stands = free <= MEMORY_SIZE;
            return stands;
        }

        private void hook(int head, int size, int start) {
            if (size < JUMP_SIZE) {
                program.put(head, Instruction.TRAP);
                program.putTrap(head, start);
            } else {
                program.put(head, Instruction.JUMP);
                program.put(head + 1, start);
            }
        }

        private void moveFirst(Program source, int head, int needed) {
            int next = head;
            for (int i = 0; i < needed && next < head + needed; i++) {
                if (instruction.read(source, next, CODE_SIZE)) {
                    moveInstruction();
                    next = instruction.behind();
                }
            }
            if (!instruction.endsBlock()) {
                appendJump(next);
            }
        }

        private void moveInstruction() {
            if (instruction.isConditional()) {
                append(instruction.first);
                append(JUMP_SIZE); // over the first of the jumps to the second
                appendJump(instruction.behind());
                appendJump(instruction.branchTarget());
            } else if (instruction.kind == Instruction.BRANCH) {
                appendJump(instruction.branchTarget());
            } else if (instruction.kind == Instruction.CALL) {
                append(Instruction.PUSH_AND_JUMP);
                append(instruction.n);
                append(instruction.behind());
            } else {
                copyInstruction();
            }
        }

        private void copyInstruction() {
            append(instruction.first);
            if (instruction.length() > 1) {
                append(instruction.n);
            }
            if (instruction.length() > 2) {
                append(instruction.m);
            }
        }

        private void appendJump(int destination) {
            append(Instruction.JUMP);
            append(destination);
        }

        private void append(int value) {
            // Goes on counting behind the end of memory: so it is seen that the section was too small.
            program.put(free, value);
            free++;
        }
    }

    /** Runs programs, and keeps what the latest run left. */
    private static final class Machine {
        private static final int STACK_SIZE = 8;
        private static final int OUTPUT_SIZE = 40;
        private static final int NOWHERE = -1;

        private final Instruction instruction;
        private final int[] registers;
        private final int[] cells;
        private final int[] stack;
        private final int[] numbers;
        private final long[] counts;
        private int pc;
        private int stackCount;
        private int numberCount;
        private int stepCount;

        Machine() {
            instruction = new Instruction();
            registers = new int[REGISTER_COUNT];
            cells = new int[CELL_COUNT];
            stack = new int[STACK_SIZE];
            numbers = new int[OUTPUT_SIZE];
            counts = new long[COUNTER_COUNT];
        }

        int registerValue(int i) {
            return registers[i & (REGISTER_COUNT - 1)];
        }

        int cellValue(int i) {
            return cells[i & (CELL_COUNT - 1)];
        }

        long count(int i) {
            return counts[i & (COUNTER_COUNT - 1)];
        }

        int printedValue(int i) {
            return i >= 0 && i < numberCount ? numbers[i] : 0;
        }

        int printed() {
            return numberCount;
        }

        int pushed() {
            return stackCount;
        }

        int position() {
            return pc;
        }

        int done() {
            return stepCount;
        }

        void start(int[] startCells) {
            Arrays.fill(registers, 0);
            Arrays.fill(counts, 0);
            System.arraycopy(startCells, 0, cells, 0, CELL_COUNT);
            pc = 0;
            stackCount = 0;
            numberCount = 0;
            stepCount = 0;
        }

        int execute(Program program, int limit) {
            int outcome = GOES_ON;
            for (int i = 0; i < limit && outcome == GOES_ON; i++) {
                outcome = step(program);
            }
            return outcome;
        }

        /** Counts the heads from outside, as a program with an analysis has nothing in it that counts. */
        int executeWatched(Program program, int limit, Analysis analysis) {
            int outcome = GOES_ON;
            for (int i = 0; i < limit && outcome == GOES_ON; i++) {
                int number = analysis.numberOfHead(pc);
                if (number != Analysis.NO_BLOCK) {
                    grow(number);
                }
                outcome = step(program);
            }
            return outcome;
        }

        private int step(Program program) {
            if (!instruction.read(program, pc, MEMORY_SIZE)) {
                return FAULTED;
            }
            if (instruction.kind == Instruction.HALT) {
                stepCount++;
                return HALTED;
            }
            int next = perform(program);
            if (next == NOWHERE) {
                return FAULTED;
            }
            pc = next;
            stepCount++;
            return GOES_ON;
        }

        /** Where the PC goes; NOWHERE if it faults, and then it has done nothing. */
        private int perform(Program program) {
            int value = registers[instruction.registerNumber()];
            switch (instruction.kind) {
                case Instruction.TRAP:
                    return trap(program);
                case Instruction.RETURN:
                    return pop();
                case Instruction.IF_ZERO:
                    return value == 0 ? branch() : instruction.behind();
                case Instruction.IF_BELOW:
                    return value < 0 ? branch() : instruction.behind();
                case Instruction.BRANCH:
                    return branch();
                case Instruction.JUMP:
                    return instruction.n;
                case Instruction.CALL:
                    return push(instruction.behind()) ? instruction.n : NOWHERE;
                case Instruction.PUSH_AND_JUMP:
                    return push(instruction.m) ? instruction.n : NOWHERE;
                case Instruction.SWITCH:
                    return lookUp(program, value);
                case Instruction.PRINT:
                    return print(value) ? instruction.behind() : NOWHERE;
                default:
                    calculate();
                    return instruction.behind();
            }
        }

        /** What can't fault and leaves the PC alone. */
        private void calculate() {
            int target = instruction.registerNumber();
            switch (instruction.kind) {
                case Instruction.UP:
                    registers[target]++;
                    break;
                case Instruction.DOWN:
                    registers[target]--;
                    break;
                case Instruction.ADD:
                    registers[target] += registers[instruction.otherRegister()];
                    break;
                case Instruction.SUBTRACT:
                    registers[target] -= registers[instruction.otherRegister()];
                    break;
                case Instruction.SET:
                    registers[target] = (byte) instruction.n;
                    break;
                case Instruction.LOAD:
                    registers[target] = cells[instruction.n & (CELL_COUNT - 1)];
                    break;
                case Instruction.STORE:
                    cells[instruction.n & (CELL_COUNT - 1)] = registers[target];
                    break;
                case Instruction.COUNT:
                    grow(instruction.n);
                    break;
                case Instruction.NOTHING:
                default:
                    break;
            }
        }

        private void grow(int counter) {
            counts[counter & (COUNTER_COUNT - 1)]++;
        }

        private int trap(Program program) {
            int destination = program.trapAt(pc);
            return destination == Program.NO_TRAP ? NOWHERE : destination;
        }

        private int branch() {
            int target = instruction.branchTarget();
            return target >= 0 && target < MEMORY_SIZE ? target : NOWHERE;
        }

        private int lookUp(Program program, int value) {
            if (instruction.m == 0) {
                return NOWHERE;
            }
            int entry = instruction.n + Math.floorMod(value, instruction.m);
            return entry < MEMORY_SIZE ? program.at(entry) : NOWHERE;
        }

        private boolean push(int address) {
            if (stackCount >= STACK_SIZE) {
                return false;
            }
            stack[stackCount] = address;
            stackCount++;
            return true;
        }

        private int pop() {
            if (stackCount <= 0) {
                return NOWHERE;
            }
            stackCount--;
            return stack[stackCount];
        }

        private boolean print(int value) {
            if (numberCount >= OUTPUT_SIZE) {
                return false;
            }
            numbers[numberCount] = value;
            numberCount++;
            return true;
        }
    }
}
