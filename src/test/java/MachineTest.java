/** Each instruction, each fault and the limits of a run: promises 10 to 15. */
public final class MachineTest {
    private static final Check CHECK = new Check("MachineTest");

    public static void main(String[] args) {
        registersGrow();
        sums();
        cells();
        branches();
        branchesOutOfMemory();
        jumpsAndCalls();
        switches();
        ofRewriting();
        noInstruction();
        outputFull();
        stackFull();
        limits();
        beginsAnew();
        heads();
        CHECK.end();
    }

    private static void registersGrow() {
        BlockCounter x = Check.with(4, 5, 5, 6, 7, 11, 11, 1, 8, 10, 12, 13, 14, 15, 0);
        CHECK.dueRun(x, 99, 1, 15, 14, 0, 4);
        CHECK.dueRegisters(x, 0, 2, 0, -1);
        int[] printed = {0, 2, 0, -1};
        for (int i = 0; i < 4; i++) {
            int k = i;
            CHECK.due("output " + i, () -> x.output(k), printed[i]);
        }
    }

    private static void sums() {
        for (int r = 0; r < 4; r++) {
            for (int s = 0; s < 4; s++) {
                int[] sum = {10, 200 - 256, 33, 44};
                int[] rest = sum.clone();
                sum[r] += sum[s];
                rest[r] -= rest[s];
                BlockCounter x = Check.with(48, 10, 49, 200, 50, 33, 51, 44, 16 + 4 * r + s, 0);
                CHECK.dueRun(x, 99, 1, 6, 9, 0, 0);
                CHECK.dueRegisters(x, sum);
                x.poke(8, 32 + 4 * r + s);
                CHECK.dueRun(x, 99, 1, 6, 9, 0, 0);
                CHECK.dueRegisters(x, rest);
            }
        }
        BlockCounter x = Check.with(52, 0, 4, 53, 1, 9, 20, 0);
        x.data(0, Integer.MAX_VALUE);
        x.data(1, Integer.MIN_VALUE);
        CHECK.dueRun(x, 99, 1, 6, 7, 0, 0);
        CHECK.dueRegisters(x, Integer.MIN_VALUE, -1, 0, 0);
    }

    private static void cells() {
        for (int r = 0; r < 4; r++) {
            BlockCounter x = Check.with(52 + r, 0xF5, 4 + r, 56 + r, 0x2F, 0);
            x.data(5, 1000 + r);
            CHECK.dueRun(x, 99, 1, 4, 5, 0, 0);
            int want = 1001 + r;
            CHECK.due("cell 47 modulo 16", () -> x.cell(15), want);
            CHECK.due("cell 5", () -> x.cell(5), want - 1);
        }
    }

    private static void branches() {
        int[] values = {0, 1, 255};
        for (int r = 0; r < 4; r++) {
            for (int value : values) {
                int ifZero = value == 0 ? 10 : 4;
                int ifBelow = value == 255 ? 10 : 4;
                CHECK.dueRun(Check.with(48 + r, value, 60 + r, 6, 0), 2, 0, 2, ifZero, 0, 0);
                CHECK.dueRun(Check.with(48 + r, value, 64 + r, 6, 0), 2, 0, 2, ifBelow, 0, 0);
            }
        }
        CHECK.dueRun(Check.with(68, 127), 9, 1, 2, 129, 0, 0);
        CHECK.dueRun(Check.with(1, 1, 68, 252, 0), 3, 0, 3, 0, 0, 0);
        CHECK.dueRun(Check.with(68, 254), 3000, 0, 3000, 0, 0, 0);
    }

    private static void branchesOutOfMemory() {
        CHECK.dueRun(Check.with(68, 253), 9, 2, 0, 0, 0, 0);
        CHECK.dueRun(Check.with(60, 128), 9, 2, 0, 0, 0, 0);
        CHECK.dueRun(Check.with(64, 128), 9, 1, 2, 2, 0, 0);
        CHECK.dueRun(Check.with(4, 60, 128), 9, 1, 3, 3, 0, 0);
        CHECK.dueRun(Check.with(8, 64, 128), 9, 2, 1, 1, 0, 0);
    }

    private static void jumpsAndCalls() {
        CHECK.dueRun(Check.with(69, 255), 9, 1, 2, 255, 0, 0);
        CHECK.dueRun(Check.with(69, 2, 69, 0), 5, 0, 5, 2, 0, 0);
        CHECK.dueRun(Check.with(70, 4, 0, 0, 3), 9, 1, 3, 2, 0, 0);
        CHECK.dueRun(Check.with(70, 4, 0, 0, 0), 9, 1, 2, 4, 1, 0);
        CHECK.dueRun(Check.with(3), 9, 2, 0, 0, 0, 0);
        CHECK.dueRun(Check.with(70, 4, 3, 0, 3), 9, 2, 2, 2, 0, 0);
        // The pushed address that was last comes first.
        CHECK.dueRun(Check.with(77, 3, 9, 77, 6, 12, 3), 3, 0, 3, 12, 1, 0);
        BlockCounter atTheEnd = new BlockCounter();
        Check.put(atTheEnd, 0, 69, 95);
        atTheEnd.poke(95, 48);
        // Its second byte is the first of the section.
        CHECK.dueRun(atTheEnd, 2, 0, 2, 97, 0, 0);
    }

    private static void switches() {
        for (int r = 0; r < 4; r++) {
            for (int value = -7; value < 8; value++) {
                int want = 100 + Math.floorMod(value, 3);
                CHECK.dueRun(Check.with(48 + r, value, 72 + r, 5, 3, 100, 101, 102), 2, 0, 2, want, 0, 0);
            }
        }
        CHECK.dueRun(Check.with(72, 5, 0), 9, 2, 0, 0, 0, 0);
        BlockCounter x = Check.with(52, 0, 72, 255, 255);
        CHECK.dueRun(x, 2, 0, 2, 0, 0, 0);
        x.data(0, 1);
        CHECK.dueRun(x, 9, 2, 1, 2, 0, 0);
    }

    private static void ofRewriting() {
        CHECK.dueRun(Check.with(2), 9, 2, 0, 0, 0, 0);
        CHECK.dueRun(Check.with(77, 5, 200), 1, 0, 1, 5, 1, 0);
        CHECK.dueRun(Check.with(77, 3, 200, 3), 9, 1, 3, 200, 0, 0);
        // Without an analysis 76 does what the machine says of it.
        BlockCounter x = Check.with(76, 3, 76, 64 + 3, 76, 255, 0);
        CHECK.dueRun(x, 9, 1, 4, 6, 0, 0);
        CHECK.due("counter 3", () -> x.counter(3), 2);
        CHECK.due("counter 63", () -> x.counter(63), 1);
        CHECK.due("counter 0", () -> x.counter(0), 0);
    }

    private static void noInstruction() {
        CHECK.dueRun(Check.with(71), 9, 2, 0, 0, 0, 0);
        for (int first = 78; first < 256; first++) {
            CHECK.dueRun(Check.with(1, first), 9, 2, 1, 1, 0, 0);
        }
        for (int first = 0; first < 78; first++) {
            if (first != 71 && first != 2 && first != 3) {
                BlockCounter x = Check.with(1, first, 1, 1);
                int outcome = first == 0 ? 1 : 0;
                CHECK.due("an instruction " + first, () -> x.run(false, 2), outcome);
            }
        }
    }

    private static void outputFull() {
        BlockCounter x = Check.with(12, 4, 68, 252);
        CHECK.dueRun(x, 3000, 2, 120, 0, 0, 40);
        CHECK.dueRegisters(x, 40, 0, 0, 0);
        for (int i = 0; i < 40; i++) {
            int k = i;
            CHECK.due("output " + i, () -> x.output(k), k);
        }
        CHECK.dueThrow("output 40", IndexOutOfBoundsException.class, () -> x.output(40));
        CHECK.dueRun(x, 118, 0, 118, 1, 0, 40);
        CHECK.dueRun(x, 120, 0, 120, 0, 0, 40);
        CHECK.dueRun(x, 121, 2, 120, 0, 0, 40);
    }

    private static void stackFull() {
        CHECK.dueRun(Check.with(4, 70, 0), 99, 2, 17, 1, 8, 0);
        CHECK.dueRun(Check.with(77, 0, 9), 99, 2, 8, 0, 8, 0);
        CHECK.dueRun(Check.with(77, 0, 9), 8, 0, 8, 0, 8, 0);
    }

    private static void limits() {
        CHECK.dueRun(Check.with(71), 0, 0, 0, 0, 0, 0);
        CHECK.dueRun(Check.with(0), 0, 0, 0, 0, 0, 0);
        CHECK.dueRun(Check.with(0), 1, 1, 1, 0, 0, 0);
        CHECK.dueRun(Check.with(1, 0), 1, 0, 1, 1, 0, 0);
        CHECK.dueRun(Check.with(1, 71), 1, 0, 1, 1, 0, 0);
        CHECK.dueRun(Check.with(1, 71), 2, 2, 1, 1, 0, 0);
    }

    private static void beginsAnew() {
        BlockCounter x = Check.with(4, 21, 6, 39, 70, 8, 0, 0, 12, 57, 1, 0);
        for (int i = 0; i < 3; i++) {
            CHECK.dueRun(x, 99, 1, 8, 11, 1, 1);
            CHECK.dueRegisters(x, 1, 0, 1, 0);
        }
    }

    /** Print and count down from 3; the heads are 0, 2, 6 and 8. */
    private static void heads() {
        BlockCounter x = Check.with(48, 3, 12, 8, 60, 2, 68, 250, 0);
        x.run(false, 100);
        CHECK.dueCounters(x, 0, 0, 0, 0, 0);
        x.analyse();
        CHECK.dueCounters(x, 0, 0, 0, 0, 0);
        x.run(false, 100);
        CHECK.dueCounters(x, 1, 3, 2, 1, 0);
        x.run(false, 0);
        CHECK.dueCounters(x, 0, 0, 0, 0, 0);
        x.run(false, 1);
        CHECK.dueCounters(x, 1, 0, 0, 0, 0);
        x.run(false, 5);
        CHECK.dueCounters(x, 1, 1, 1, 0, 0);
        // A head at which it faults was come to.
        BlockCounter faulting = Check.with(12, 68, 253);
        faulting.analyse();
        faulting.run(false, 3000);
        CHECK.dueCounters(faulting, 41, 0);
    }
}
