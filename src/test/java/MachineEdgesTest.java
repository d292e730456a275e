/** Terms, the machine: each sentence that names a boundary has a test of its own. */
public final class MachineEdgesTest {
    private static final Check CHECK = new Check("MachineEdgesTest");
    private static final int LEAST = Integer.MIN_VALUE;
    private static final int MOST = Integer.MAX_VALUE;

    public static void main(String[] args) {
        CHECK.sentence("256 bytes of memory for programs", MachineEdgesTest::memory);
        CHECK.sentence("REGISTERS 0 .. 3 and CELLS 0 .. 15 (ints)", MachineEdgesTest::ints);
        CHECK.sentence("4 + R: R grows by 1.  8 + R: by -1.", MachineEdgesTest::growing);
        CHECK.sentence("16 + 4 R + S: R grows by register S.", MachineEdgesTest::sums);
        CHECK.sentence("32 + 4 R + S: it becomes less by S.", MachineEdgesTest::differences);
        CHECK.sentence("48 + R, N: R is N (with sign).", MachineEdgesTest::numbersWithSign);
        CHECK.sentence("52 + R, N: R is cell N modulo 16.", MachineEdgesTest::cellsRead);
        CHECK.sentence("56 + R, N: that cell is R.", MachineEdgesTest::cellsWritten);
        CHECK.sentence("a branch by N goes so many bytes on (N as a number with sign)", MachineEdgesTest::branches);
        CHECK.sentence("60 + R, N: a branch, if R is 0.", MachineEdgesTest::ifZero);
        CHECK.sentence("64 + R, N: a branch, if R is below 0.", MachineEdgesTest::ifBelow);
        CHECK.sentence("69, N: the PC is N.", MachineEdgesTest::jumps);
        CHECK.sentence("70, N: CALL, the address behind it is pushed", MachineEdgesTest::calls);
        CHECK.sentence("R modulo M, 0 .. M - 1", MachineEdgesTest::switches);
        CHECK.sentence("76, N: counter N modulo 64 grows by 1.", MachineEdgesTest::counters);
        CHECK.sentence("77, N, M: M is pushed, the PC is N.", MachineEdgesTest::pushes);
        CHECK.sentence("RETURN: the address that was pushed last, which is taken off", MachineEdgesTest::returns);
        CHECK.sentence("It FAULTS at a byte that is none", MachineEdgesTest::noInstruction);
        CHECK.sentence("if an instruction would not lie in memory", MachineEdgesTest::instructionInMemory);
        CHECK.sentence("or a table's byte would not lie in memory", MachineEdgesTest::tableInMemory);
        CHECK.sentence("or a branch goes out of it", MachineEdgesTest::branchOutOfMemory);
        CHECK.sentence("at a TRAP that is not there", MachineEdgesTest::noTrap);
        CHECK.sentence("M = 0", MachineEdgesTest::switchByNothing);
        CHECK.sentence("an output of a 41st number", MachineEdgesTest::fullOutput);
        CHECK.sentence("a push of a ninth address", MachineEdgesTest::fullStack);
        CHECK.sentence("a RETURN without one", MachineEdgesTest::emptyStack);
        CHECK.sentence("What faults does nothing else.", MachineEdgesTest::faultsDoNothingElse);
        CHECK.end();
    }

    /** Runs a program that halts, with two cells at its beginning, and looks at one register. */
    private static void dueRegister(int register, int want, int first, int second, int... bytes) {
        BlockCounter x = Check.with(bytes);
        x.data(0, first);
        x.data(1, second);
        CHECK.due("outcome", () -> x.run(false, 99), 1);
        CHECK.due(bytes[bytes.length - 2] + " with " + first + ", " + second, () -> x.register(register), want);
    }

    private static void memory() {
        CHECK.dueRun(Check.with(69, 95), 9, 1, 2, 95, 0, 0);
        CHECK.dueRun(Check.with(69, 96), 9, 1, 2, 96, 0, 0);
        CHECK.dueRun(Check.with(69, 255), 9, 1, 2, 255, 0, 0);
    }

    private static void ints() {
        for (int value : new int[] {LEAST, -1, 0, MOST}) {
            for (int r = 0; r < 4; r++) {
                BlockCounter x = Check.with(52 + r, 0, 56 + r, 15, 12 + r, 0);
                int register = r;
                x.data(0, value);
                CHECK.due("outcome", () -> x.run(false, 99), 1);
                CHECK.due("register " + r, () -> x.register(register), value);
                CHECK.due("cell", () -> x.cell(15), value);
                CHECK.due("output", () -> x.output(0), value);
            }
        }
    }

    private static void growing() {
        for (int r = 0; r < 4; r++) {
            dueRegister(r, LEAST, MOST, 0, 52 + r, 0, 4 + r, 0);
            dueRegister(r, MOST, MOST - 1, 0, 52 + r, 0, 4 + r, 0);
            dueRegister(r, 0, -1, 0, 52 + r, 0, 4 + r, 0);
            dueRegister(r, MOST, LEAST, 0, 52 + r, 0, 8 + r, 0);
            dueRegister(r, LEAST, LEAST + 1, 0, 52 + r, 0, 8 + r, 0);
            dueRegister(r, -1, 0, 0, 52 + r, 0, 8 + r, 0);
        }
    }

    private static void sums() {
        for (int r = 0; r < 4; r++) {
            for (int s = 0; s < 4; s++) {
                int first = 16 + 4 * r + s;
                dueRegister(r, r == s ? 2 : LEAST, MOST, 1, 52 + r, 0, 52 + s, 1, first, 0);
                dueRegister(r, r == s ? -2 : MOST, LEAST, -1, 52 + r, 0, 52 + s, 1, first, 0);
                dueRegister(r, r == s ? -2 : MOST, 0, MOST, 52 + r, 0, 52 + s, 1, first, 0);
            }
        }
    }

    private static void differences() {
        for (int r = 0; r < 4; r++) {
            for (int s = 0; s < 4; s++) {
                int first = 32 + 4 * r + s;
                dueRegister(r, r == s ? 0 : MOST, LEAST, 1, 52 + r, 0, 52 + s, 1, first, 0);
                dueRegister(r, r == s ? 0 : LEAST, MOST, -1, 52 + r, 0, 52 + s, 1, first, 0);
                dueRegister(r, r == s ? 0 : LEAST, 0, LEAST, 52 + r, 0, 52 + s, 1, first, 0);
            }
        }
    }

    private static void numbersWithSign() {
        int[][] pairs = {{0, 0}, {1, 1}, {127, 127}, {128, -128}, {129, -127}, {255, -1}};
        for (int[] pair : pairs) {
            for (int r = 0; r < 4; r++) {
                dueRegister(r, pair[1], 0, 0, 48 + r, pair[0], 1, 0);
            }
        }
    }

    private static final int[][] MODULO_16 = {{0, 0}, {15, 15}, {16, 0}, {31, 15}, {127, 15}, {128, 0}, {255, 15}};

    private static void cellsRead() {
        for (int[] pair : MODULO_16) {
            BlockCounter x = Check.with(52, pair[0], 0);
            x.data(pair[1], 7);
            x.run(false, 9);
            CHECK.due("cell " + pair[0], () -> x.register(0), 7);
        }
    }

    private static void cellsWritten() {
        for (int[] pair : MODULO_16) {
            BlockCounter x = Check.with(48, 7, 56, pair[0], 0);
            x.run(false, 9);
            for (int i = 0; i < 16; i++) {
                int k = i;
                CHECK.due("that cell of " + pair[0] + ": " + i, () -> x.cell(k), k == pair[1] ? 7 : 0);
            }
        }
    }

    private static void branches() {
        CHECK.dueRun(Check.with(68, 0), 1, 0, 1, 2, 0, 0);
        CHECK.dueRun(Check.with(68, 1), 1, 0, 1, 3, 0, 0);
        CHECK.dueRun(Check.with(68, 127), 1, 0, 1, 129, 0, 0);
        // With 128 and above it goes back; from the code the farthest that stays in memory is 160, by 96.
        CHECK.dueRun(Check.with(68, 254), 1, 0, 1, 0, 0, 0);
        CHECK.dueRun(Check.with(69, 3, 0, 68, 255), 2, 0, 2, 4, 0, 0);
        CHECK.dueRun(fromTheEnd(68, 160), 2, 0, 2, 0, 0, 0);
        CHECK.dueRun(fromTheEnd(68, 127), 2, 0, 2, 223, 0, 0);
        CHECK.dueRun(fromTheEnd(68, 128), 2, 2, 1, 94, 0, 0);
    }

    private static BlockCounter fromTheEnd(int first, int n) {
        BlockCounter x = Check.with(69, 94);
        Check.put(x, 94, first, n);
        return x;
    }

    /** Whether a branch by 4 is taken with the register at this value. */
    private static void dueBranch(int first, int value, boolean taken) {
        BlockCounter x = Check.with(52 + first % 4, 0, first, 4, 0);
        x.data(0, value);
        CHECK.dueRun(x, 2, 0, 2, taken ? 8 : 4, 0, 0);
    }

    private static void ifZero() {
        for (int r = 0; r < 4; r++) {
            dueBranch(60 + r, 0, true);
            for (int value : new int[] {LEAST, -1, 1, 256, MOST}) {
                dueBranch(60 + r, value, false);
            }
        }
    }

    private static void ifBelow() {
        for (int r = 0; r < 4; r++) {
            dueBranch(64 + r, -1, true);
            dueBranch(64 + r, LEAST, true);
            for (int value : new int[] {0, 1, 128, MOST}) {
                dueBranch(64 + r, value, false);
            }
        }
    }

    private static void jumps() {
        CHECK.dueRun(Check.with(69, 0), 1, 0, 1, 0, 0, 0);
        // No sign here.
        CHECK.dueRun(Check.with(69, 127), 1, 0, 1, 127, 0, 0);
        CHECK.dueRun(Check.with(69, 128), 1, 0, 1, 128, 0, 0);
        CHECK.dueRun(Check.with(69, 255), 1, 0, 1, 255, 0, 0);
    }

    private static void calls() {
        CHECK.dueRun(Check.with(70, 255), 1, 0, 1, 255, 1, 0);
        CHECK.dueRun(Check.with(70, 0), 1, 0, 1, 0, 1, 0);
        BlockCounter atTheEnd = Check.with(69, 94, 3);
        Check.put(atTheEnd, 94, 70, 2);
        // The address behind it is the first of the section.
        CHECK.dueRun(atTheEnd, 9, 1, 4, 96, 0, 0);
    }

    private static void switches() {
        int[][] rows = {{0, 0}, {1, 1}, {2, 2}, {3, 0}, {-1, 2}, {-2, 1}, {-3, 0}, {-4, 2}, {MOST, 1}, {LEAST, 1}};
        for (int[] row : rows) {
            for (int r = 0; r < 4; r++) {
                BlockCounter x = Check.with(52 + r, 0, 72 + r, 5, 3, 200, 201, 202, 203);
                x.data(0, row[0]);
                CHECK.dueRun(x, 2, 0, 2, 200 + row[1], 0, 0);
            }
        }
        for (int value : new int[] {LEAST, -1, 0, 1, MOST}) {
            BlockCounter x = Check.with(52, 0, 72, 5, 1, 200, 201);
            x.data(0, value);
            CHECK.dueRun(x, 2, 0, 2, 200, 0, 0);
        }
        // M has no sign: with 255 addresses, 254 is the last one.
        BlockCounter x = Check.with(52, 0, 72, 0, 255);
        x.data(0, 255);
        CHECK.dueRun(x, 2, 0, 2, 52, 0, 0);
        x.data(0, 257);
        CHECK.dueRun(x, 2, 0, 2, 72, 0, 0);
        x.data(0, -253);
        CHECK.dueRun(x, 2, 0, 2, 72, 0, 0);
    }

    private static void counters() {
        int[][] pairs = {{0, 0}, {62, 62}, {63, 63}, {64, 0}, {127, 63}, {128, 0}, {191, 63}, {192, 0}, {255, 63}};
        for (int[] pair : pairs) {
            int[] want = new int[64];
            want[pair[1]] = 1;
            BlockCounter x = Check.with(76, pair[0], 0);
            CHECK.dueRun(x, 9, 1, 2, 2, 0, 0);
            CHECK.dueCounters(x, want);
        }
    }

    private static void pushes() {
        int[] edges = {0, 127, 128, 255};
        for (int edge : edges) {
            CHECK.dueRun(Check.with(77, edge, 9), 1, 0, 1, edge, 1, 0);
            CHECK.dueRun(Check.with(77, 3, edge, 3), 2, 0, 2, edge, 0, 0);
        }
    }

    /** Eight addresses are pushed by 77, then taken off one by one. */
    private static void returns() {
        BlockCounter x = new BlockCounter();
        for (int i = 0; i < 8; i++) {
            Check.put(x, 3 * i, 77, 3 * i + 3, 30 + i);
            x.poke(30 + i, 3);
        }
        x.poke(24, 3);
        for (int taken = 1; taken <= 8; taken++) {
            CHECK.dueRun(x, 8 + taken, 0, 8 + taken, 38 - taken, 8 - taken, 0);
        }
        CHECK.dueRun(x, 99, 2, 16, 30, 0, 0);
    }

    private static void noInstruction() {
        for (int first = 0; first < 256; first++) {
            boolean none = first == 71 || first > 77;
            // 2 and 3 are instructions, but have no trap and no address here.
            boolean faults = none || first == 2 || first == 3;
            BlockCounter x = Check.with(1, first, 1, 1);
            int outcome = faults ? 2 : first == 0 ? 1 : 0;
            CHECK.due("at " + first, () -> x.run(false, 2), outcome);
            CHECK.due("steps at " + first, x::steps, faults ? 1 : 2);
        }
    }

    /**
     * Only what lies in memory can be shown: the section of the original is 0 (HALT), and new code
     * ends in the section; so no program comes to an instruction over the end of memory.
     */
    private static void instructionInMemory() {
        BlockCounter two = Check.with(69, 95);
        two.poke(95, 49);
        CHECK.dueRun(two, 9, 1, 3, 97, 0, 0);
        BlockCounter three = Check.with(69, 95);
        three.poke(95, 77);
        CHECK.dueRun(three, 2, 0, 2, 0, 1, 0);
        CHECK.dueRun(Check.with(69, 255), 9, 1, 2, 255, 0, 0);
    }

    private static void tableInMemory() {
        BlockCounter x = Check.with(52, 0, 72, 255, 2);
        CHECK.dueRun(x, 2, 0, 2, 0, 0, 0);
        x.data(0, 1);
        CHECK.dueRun(x, 9, 2, 1, 2, 0, 0);
        x.data(0, -1);
        CHECK.dueRun(x, 9, 2, 1, 2, 0, 0);
        x.data(0, -2);
        CHECK.dueRun(x, 2, 0, 2, 0, 0, 0);
        Check.put(x, 2, 72, 1, 255);
        x.data(0, 254);
        CHECK.dueRun(x, 2, 0, 2, 0, 0, 0);
        x.poke(3, 2);
        CHECK.dueRun(x, 9, 2, 1, 2, 0, 0);
        x.data(0, 253);
        CHECK.dueRun(x, 2, 0, 2, 0, 0, 0);
    }

    /** From the code no branch comes to 256; it can only go out below 0. */
    private static void branchOutOfMemory() {
        for (int first = 60; first <= 68; first++) {
            int below = first >= 64 && first < 68 ? 1 : 0;
            BlockCounter x = Check.with(48 + first % 4, -below, first, 252);
            CHECK.dueRun(x, 2, 0, 2, 0, 0, 0);
            x.poke(3, 251);
            CHECK.dueRun(x, 2, 2, 1, 2, 0, 0);
            x.poke(3, 128);
            CHECK.dueRun(x, 2, 2, 1, 2, 0, 0);
            x.poke(1, first < 64 ? 1 : 0);
            CHECK.dueRun(x, 2, first == 68 ? 2 : 0, first == 68 ? 1 : 2, first == 68 ? 2 : 4, 0, 0);
        }
        CHECK.dueRun(fromTheEnd(68, 160), 2, 0, 2, 0, 0, 0);
        CHECK.dueRun(fromTheEnd(68, 159), 2, 2, 1, 94, 0, 0);
    }

    private static void noTrap() {
        CHECK.dueRun(Check.with(2), 9, 2, 0, 0, 0, 0);
        BlockCounter x = Check.with(0);
        x.analyse();
        x.rewrite();
        CHECK.due("the trap is there", () -> x.run(true, 9), 1);
        CHECK.due("TRAP, 76, HALT", x::steps, 3);
        x.poke(0, 2);
        // The traps are those of the rewritten program, which is gone.
        CHECK.dueRun(x, 9, 2, 0, 0, 0, 0);
        BlockCounter last = Check.with(69, 95);
        last.analyse();
        last.rewrite();
        CHECK.due("a trap at the last byte", () -> last.run(true, 9), 1);
        last.poke(95, 2);
        CHECK.dueRun(last, 9, 2, 1, 95, 0, 0);
    }

    private static void switchByNothing() {
        for (int r = 0; r < 4; r++) {
            CHECK.dueRun(Check.with(48 + r, 7, 72 + r, 20, 1), 2, 0, 2, 0, 0, 0);
            CHECK.dueRun(Check.with(48 + r, 7, 72 + r, 20, 0), 2, 2, 1, 2, 0, 0);
            CHECK.dueRun(Check.with(48 + r, 0, 72 + r, 20, 0), 2, 2, 1, 2, 0, 0);
        }
    }

    private static void fullOutput() {
        for (int r = 0; r < 4; r++) {
            BlockCounter x = Check.with(4 + r, 12 + r, 68, 252);
            CHECK.dueRun(x, 119, 0, 119, 2, 0, 40);
            CHECK.dueRun(x, 121, 0, 121, 1, 0, 40);
            CHECK.dueRun(x, 122, 2, 121, 1, 0, 40);
            CHECK.due("the 40th", () -> x.output(39), 40);
            CHECK.dueThrow("no 41st", IndexOutOfBoundsException.class, () -> x.output(40));
        }
    }

    private static void fullStack() {
        CHECK.dueRun(Check.with(70, 0), 8, 0, 8, 0, 8, 0);
        CHECK.dueRun(Check.with(70, 0), 9, 2, 8, 0, 8, 0);
        CHECK.dueRun(Check.with(77, 0, 0), 8, 0, 8, 0, 8, 0);
        CHECK.dueRun(Check.with(77, 0, 0), 9, 2, 8, 0, 8, 0);
        // Seven, then one is taken off and one comes: it is never full.
        BlockCounter x = Check.with(70, 2, 70, 4, 70, 6, 70, 8, 70, 10, 70, 12, 70, 14, 70, 18, 68, 252, 3);
        CHECK.dueRun(x, 3000, 0, 3000, 16, 7, 0);
    }

    private static void emptyStack() {
        CHECK.dueRun(Check.with(3), 9, 2, 0, 0, 0, 0);
        CHECK.dueRun(Check.with(70, 3, 3, 3), 2, 0, 2, 2, 0, 0);
        CHECK.dueRun(Check.with(70, 3, 3, 3), 3, 2, 2, 2, 0, 0);
    }

    /** After so many steps, the next one faults: what is left is what the step before it left. */
    private static void dueFault(int steps, int... bytes) {
        BlockCounter x = Check.with(bytes);
        x.data(0, 1);
        x.data(1, -1);
        CHECK.due("before the fault", () -> x.run(false, steps), 0);
        String before = Check.left(x);
        CHECK.due("the fault", () -> x.run(false, steps + 1), 2);
        CHECK.same("what is left", Check.left(x), before);
        CHECK.due("no step more", () -> x.run(false, 3000), 2);
        CHECK.same("what is left", Check.left(x), before);
    }

    private static void faultsDoNothingElse() {
        // Each one has a pushed address, a number in the output, registers and a cell that are not 0.
        int[] begin = {52, 0, 12, 53, 1, 56, 2, 77, 10, 50};
        int[][] ends = {{71}, {78}, {255}, {2}, {72, 9, 0}, {72, 255, 2}, {68, 128}, {65, 128}, {62, 128}};
        for (int[] end : ends) {
            int[] all = new int[begin.length + end.length];
            System.arraycopy(begin, 0, all, 0, begin.length);
            System.arraycopy(end, 0, all, begin.length, end.length);
            dueFault(5, all);
        }
        dueFault(0, 3);
        dueFault(2, 4, 13, 3);
        dueFault(120, 12, 4, 68, 252);
        dueFault(17, 4, 70, 0);
        dueFault(17, 4, 77, 0, 9);
    }
}
