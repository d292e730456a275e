/** Promises 10 to 15: each sentence that names a boundary or a refusal has a test of its own. */
public final class RunEdgesTest {
    private static final Check CHECK = new Check("RunEdgesTest");
    private static final int LEAST = Integer.MIN_VALUE;
    private static final int MOST = Integer.MAX_VALUE;
    private static final Class<IndexOutOfBoundsException> OUT = IndexOutOfBoundsException.class;
    private static final Class<IllegalArgumentException> ARGUMENT = IllegalArgumentException.class;
    private static final Class<IllegalStateException> STATE = IllegalStateException.class;

    public static void main(String[] args) {
        CHECK.sentence("Promise 10: the section of the original is 0", RunEdgesTest::sectionOfOriginal);
        CHECK.sentence("Promise 10: from address 0, all but the cells 0 or empty", RunEdgesTest::begins);
        CHECK.sentence("Promise 10: at most so many instructions (0 .. 3000)", RunEdgesTest::atMost);
        CHECK.sentence("Promise 10: 0 it goes on, 1 halted, 2 faulted", RunEdgesTest::outcomes);
        CHECK.sentence("Promise 10: how often the heads were come to", RunEdgesTest::headsComeTo);
        CHECK.sentence("Promise 10: if there is an analysis (else they stay 0)", RunEdgesTest::onlyWithAnalysis);
        CHECK.sentence("Promise 10: IllegalArgumentException if it is not 0 .. 3000", RunEdgesTest::stepsAllowed);
        CHECK.sentence("Promise 10: if there is no rewritten program and it is asked for", RunEdgesTest::noProgram);
        CHECK.sentence("Promise 11: HALT counted, but none that faulted", RunEdgesTest::stepsCounted);
        CHECK.sentence("Promise 11: 0 if there was none", RunEdgesTest::noRun);
        CHECK.sentence("Promise 11: What is asked of the latest run stays till the next one", RunEdgesTest::stays);
        CHECK.sentence("Promise 12: A register after the latest run (0 .. 3)", RunEdgesTest::registers);
        CHECK.sentence("Promise 12: the PC (4; HALT's own address, or where it faulted)", RunEdgesTest::positions);
        CHECK.sentence("Promise 12: how many addresses are on the stack (5)", RunEdgesTest::stackCount);
        CHECK.sentence("Promise 12: how many numbers the output has (6)", RunEdgesTest::outputCount);
        CHECK.sentence("Promise 12: IndexOutOfBoundsException for others", RunEdgesTest::noRegister);
        CHECK.sentence("Promise 13: A cell after the latest run (before any: 0)", RunEdgesTest::cells);
        CHECK.sentence("Promise 13: IndexOutOfBoundsException if there is none", RunEdgesTest::noCell);
        CHECK.sentence("Promise 14: A number of its output", RunEdgesTest::output);
        CHECK.sentence("Promise 14: IndexOutOfBoundsException if there is none", RunEdgesTest::noOutput);
        CHECK.sentence("Promise 15: Its counter k", RunEdgesTest::counters);
        CHECK.sentence("Promise 15: if it is not 0 .. 63", RunEdgesTest::noCounter);
        CHECK.end();
    }

    private static BlockCounter rewritten(BlockCounter x) {
        x.analyse();
        x.rewrite();
        return x;
    }

    /** The outcome, the steps and the PC of a run of the rewritten program. */
    private static void dueSecond(BlockCounter x, int limit, int outcome, int steps, int pc) {
        CHECK.due("rewritten, for " + limit, () -> x.run(true, limit), outcome);
        CHECK.due("its steps", x::steps, steps);
        CHECK.due("its PC", () -> x.register(4), pc);
    }

    /** Leaves something in all registers, two cells, the output and on the stack; ends by a fault. */
    private static BlockCounter leaving() {
        return Check.with(48, 1, 49, 2, 50, 3, 51, 4, 13, 57, 15, 56, 0, 70, 15, 13, 70, 15);
    }

    private static void sectionOfOriginal() {
        for (int address : new int[] {96, 97, 254, 255}) {
            CHECK.dueRun(Check.with(69, address), 9, 1, 2, address, 0, 0);
        }
        BlockCounter x = rewritten(Check.with(48, 1, 0));
        CHECK.due("beside a rewritten program", () -> x.code(96, false), 0);
        dueSecond(x, 99, 1, 5, 2);
        Check.put(x, 0, 69, 96);
        CHECK.dueRun(x, 99, 1, 2, 96, 0, 0);
    }

    private static void begins() {
        BlockCounter x = leaving();
        x.analyse();
        x.run(false, 3000);
        CHECK.due("it left something", () -> x.register(5), 8);
        x.run(false, 0);
        CHECK.same("a run of no steps", Check.left(x), Check.left(new BlockCounter()));
        x.run(false, 3000);
        x.poke(0, 0);
        CHECK.dueRun(x, 9, 1, 1, 0, 0, 0);
        CHECK.dueRegisters(x, 0, 0, 0, 0);
        CHECK.dueThrow("no old number", OUT, () -> x.output(0));
        CHECK.dueCounters(x, new int[64]);
        CHECK.due("cell 0", () -> x.cell(0), 0);
        CHECK.due("cell 15", () -> x.cell(15), 0);
        // A RETURN finds no address of the run before.
        x.poke(0, 3);
        CHECK.dueRun(x, 9, 2, 0, 0, 0, 0);
    }

    /** Halts with step 3 k + 1 + nothings, k being cell 0; or goes to 71 there. */
    private static BlockCounter lasting(int k, int nothings, int end) {
        BlockCounter x = Check.with(52, 0, 8, 60, 2, 68, 251);
        x.data(0, k);
        for (int i = 0; i < nothings; i++) {
            x.poke(7 + i, 1);
        }
        x.poke(7 + nothings, end);
        return x;
    }

    private static void atMost() {
        CHECK.dueRun(lasting(999, 2, 0), 3000, 1, 3000, 9, 0, 0);
        CHECK.dueRun(lasting(999, 2, 0), 2999, 0, 2999, 9, 0, 0);
        CHECK.dueRun(lasting(999, 3, 0), 3000, 0, 3000, 10, 0, 0);
        CHECK.dueRun(lasting(999, 2, 71), 3000, 2, 2999, 9, 0, 0);
        CHECK.dueRun(lasting(999, 3, 71), 3000, 0, 3000, 10, 0, 0);
        CHECK.dueRun(Check.with(69, 0), 3000, 0, 3000, 0, 0, 0);
        CHECK.dueRun(Check.with(69, 0), 1, 0, 1, 0, 0, 0);
        CHECK.dueRun(Check.with(69, 0), 0, 0, 0, 0, 0, 0);
        BlockCounter x = rewritten(Check.with(69, 0));
        dueSecond(x, 3000, 0, 3000, 0);
        dueSecond(x, 2999, 0, 2999, 98);
        dueSecond(x, 1, 0, 1, 96);
        dueSecond(x, 0, 0, 0, 0);
    }

    private static void outcomes() {
        CHECK.dueRun(Check.with(0), 0, 0, 0, 0, 0, 0);
        CHECK.dueRun(Check.with(0), 1, 1, 1, 0, 0, 0);
        CHECK.dueRun(Check.with(0), 2, 1, 1, 0, 0, 0);
        CHECK.dueRun(Check.with(71), 0, 0, 0, 0, 0, 0);
        CHECK.dueRun(Check.with(71), 1, 2, 0, 0, 0, 0);
        CHECK.dueRun(Check.with(1, 71), 1, 0, 1, 1, 0, 0);
        CHECK.dueRun(Check.with(1, 71), 2, 2, 1, 1, 0, 0);
        BlockCounter halting = rewritten(Check.with(0));
        dueSecond(halting, 2, 0, 2, 98);
        dueSecond(halting, 3, 1, 3, 98);
        BlockCounter faulting = rewritten(Check.with(3));
        dueSecond(faulting, 2, 0, 2, 98);
        dueSecond(faulting, 3, 2, 2, 98);
    }

    /** A head counts when it is its turn within the steps, if it faults there, too. */
    private static void headsComeTo() {
        BlockCounter x = Check.with(48, 3, 12, 8, 60, 2, 68, 250, 0);
        x.analyse();
        int[][] rows = {{0, 0, 0, 0, 0}, {1, 1, 0, 0, 0}, {2, 1, 1, 0, 0}, {4, 1, 1, 0, 0}, {5, 1, 1, 1, 0},
            {6, 1, 2, 1, 0}, {12, 1, 3, 2, 0}, {13, 1, 3, 2, 1}, {3000, 1, 3, 2, 1}};
        for (int[] row : rows) {
            x.run(false, row[0]);
            CHECK.dueCounters(x, row[1], row[2], row[3], row[4], 0);
        }
        BlockCounter often = Check.with(69, 0);
        often.analyse();
        often.run(false, 3000);
        CHECK.dueCounters(often, 3000, 0);
        BlockCounter faulting = Check.with(12, 68, 253);
        faulting.analyse();
        CHECK.due("before the 41st number", () -> faulting.run(false, 80), 0);
        CHECK.dueCounters(faulting, 40, 0);
        CHECK.due("the 41st number", () -> faulting.run(false, 81), 2);
        CHECK.dueCounters(faulting, 41, 0);
        dueLastCounter();
    }

    /** 64 blocks; the last one is at the last byte, and counts in the last counter. */
    private static void dueLastCounter() {
        BlockCounter x = new BlockCounter();
        for (int i = 0; i < 32; i++) {
            Check.put(x, 2 * i, 60, 62 - i);
        }
        x.poke(1, 93);
        Check.put(x, 62, 60, 0);
        for (int i = 64; i < 95; i++) {
            x.poke(i, 1);
        }
        CHECK.due("blocks", x::analyse, 64);
        CHECK.due("at once to 95", () -> x.run(false, 99), 1);
        int[] want = new int[64];
        want[0] = 1;
        want[63] = 1;
        CHECK.dueCounters(x, want);
    }

    private static void onlyWithAnalysis() {
        BlockCounter x = Check.with(60, 0, 0);
        x.run(false, 99);
        CHECK.dueCounters(x, new int[64]);
        x.analyse();
        CHECK.dueCounters(x, new int[64]);
        x.run(false, 99);
        CHECK.dueCounters(x, 1, 1, 0);
        x.rewrite();
        x.run(false, 99);
        CHECK.dueCounters(x, 1, 1, 0);
        x.poke(0, 60);
        CHECK.dueCounters(x, 1, 1, 0);
        x.run(false, 99);
        CHECK.dueCounters(x, new int[64]);
        x.analyse();
        x.declare(5, 5);
        x.run(false, 99);
        CHECK.dueCounters(x, new int[64]);
        x.poke(2, 71);
        Check.told(x::analyse);
        x.run(false, 99);
        CHECK.dueCounters(x, new int[64]);
    }

    private static void stepsAllowed() {
        BlockCounter x = rewritten(Check.with(4, 12, 56, 3, 0));
        for (int round = 0; round < 2; round++) {
            boolean second = round == 1;
            CHECK.due("0 steps", () -> x.run(second, 0), 0);
            CHECK.due("1 step", () -> x.run(second, 1), 0);
            CHECK.due("2999 steps", () -> x.run(second, 2999), 1);
            CHECK.due("3000 steps", () -> x.run(second, 3000), 1);
            for (int steps : new int[] {LEAST, -3000, -1, 3001, 3002, 65536, MOST}) {
                CHECK.dueRefusal("steps " + steps, ARGUMENT, x, () -> x.run(second, steps));
                CHECK.dueThrow("of a new object", ARGUMENT, () -> new BlockCounter().run(second, steps));
            }
        }
    }

    private static void noProgram() {
        BlockCounter x = Check.with(4, 12, 56, 3, 0);
        x.run(false, 3000);
        for (int steps : new int[] {0, 1, 3000}) {
            CHECK.dueRefusal("not analysed", STATE, x, () -> x.run(true, steps));
        }
        x.analyse();
        CHECK.dueRefusal("analysed only", STATE, x, () -> x.run(true, 0));
        x.rewrite();
        CHECK.due("rewritten", () -> x.run(true, 3000), 1);
        x.analyse();
        CHECK.dueRefusal("analysed again", STATE, x, () -> x.run(true, 3000));
        CHECK.due("the original can be asked for", () -> x.run(false, 3000), 1);
    }

    private static void stepsCounted() {
        int[][] rows = {{0, 0}, {1, 1}, {2, 2}, {3, 3}, {4, 3}, {3000, 3}};
        for (int[] row : rows) {
            BlockCounter halting = Check.with(1, 1, 0);
            halting.run(false, row[0]);
            CHECK.due("HALT is the third, of " + row[0], halting::steps, row[1]);
            BlockCounter faulting = Check.with(1, 1, 1, 71);
            faulting.run(false, row[0]);
            CHECK.due("a fault is the fourth, of " + row[0], faulting::steps, row[1]);
        }
        for (int[] end : new int[][] {{3}, {2}, {72, 0, 0}, {68, 128}, {71}}) {
            BlockCounter x = Check.with(end);
            CHECK.due("it faults at once", () -> x.run(false, 9), 2);
            CHECK.due("no step", x::steps, 0);
        }
        BlockCounter x = Check.with(0);
        x.run(false, 1);
        CHECK.due("HALT alone", x::steps, 1);
    }

    private static void noRun() {
        BlockCounter x = new BlockCounter();
        CHECK.due("a new object", x::steps, 0);
        Check.put(x, 0, 1, 1);
        x.data(0, 1);
        rewritten(x);
        CHECK.dueThrow("a refused run", ARGUMENT, () -> x.run(true, 3001));
        CHECK.due("still none", x::steps, 0);
        for (int i = 0; i < 7; i++) {
            int k = i;
            CHECK.due("register " + i, () -> x.register(k), 0);
        }
        CHECK.dueCounters(x, new int[64]);
        x.run(false, 2);
        CHECK.due("a run", x::steps, 2);
        x.run(false, 0);
        CHECK.due("a run of none", x::steps, 0);
    }

    private static void stays() {
        BlockCounter x = leaving();
        x.data(2, 7);
        rewritten(x);
        CHECK.due("it faults", () -> x.run(false, 3000), 2);
        String left = Check.left(x);
        x.poke(0, 0);
        CHECK.same("after poke", Check.left(x), left);
        x.declare(60, 2);
        CHECK.same("after declare", Check.left(x), left);
        x.data(2, 9);
        CHECK.same("after data", Check.left(x), left);
        x.analyse();
        CHECK.same("after analyse", Check.left(x), left);
        x.rewrite();
        CHECK.same("after rewrite", Check.left(x), left);
        x.poke(0, 71);
        CHECK.dueThrow("refused", UnsupportedOperationException.class, x::analyse);
        CHECK.dueThrow("refused", STATE, x::rewrite);
        CHECK.dueThrow("refused", STATE, () -> x.run(true, 5));
        CHECK.dueThrow("refused", ARGUMENT, () -> x.run(false, -1));
        CHECK.same("after refusals", Check.left(x), left);
        x.run(false, 0);
        CHECK.due("till the next one", () -> x.register(3), 0);
        CHECK.due("which has its own cells", () -> x.cell(2), 9);
    }

    private static void registers() {
        BlockCounter x = leaving();
        x.run(false, 7);
        CHECK.dueRegisters(x, 1, 2, 3, 4);
        x.run(false, 3);
        CHECK.dueRegisters(x, 1, 2, 3, 0);
        BlockCounter y = Check.with(52, 0, 55, 1, 0);
        y.data(0, LEAST);
        y.data(1, MOST);
        y.run(false, 9);
        CHECK.dueRegisters(y, LEAST, 0, 0, MOST);
    }

    private static void positions() {
        CHECK.dueRun(Check.with(0), 9, 1, 1, 0, 0, 0);
        CHECK.dueRun(Check.with(69, 95), 9, 1, 2, 95, 0, 0);
        CHECK.dueRun(Check.with(69, 255), 9, 1, 2, 255, 0, 0);
        CHECK.dueRun(Check.with(48, 1, 71), 9, 2, 1, 2, 0, 0);
        CHECK.dueRun(Check.with(1, 68, 128), 9, 2, 1, 1, 0, 0);
        CHECK.dueRun(Check.with(1, 72, 255, 0), 9, 2, 1, 1, 0, 0);
        CHECK.dueRun(Check.with(48, 1, 0), 1, 0, 1, 2, 0, 0);
        BlockCounter last = Check.with(69, 95);
        last.poke(95, 255);
        CHECK.dueRun(last, 9, 2, 1, 95, 0, 0);
        BlockCounter halting = rewritten(Check.with(0));
        dueSecond(halting, 99, 1, 3, 98);
        BlockCounter faulting = rewritten(Check.with(1, 3));
        dueSecond(faulting, 99, 2, 3, 99);
    }

    private static void stackCount() {
        for (int pushed = 0; pushed <= 8; pushed++) {
            int want = pushed;
            BlockCounter x = rewritten(Check.with(70, 0));
            x.run(false, pushed);
            CHECK.due("pushed", () -> x.register(5), want);
            x.run(true, 3 * pushed);
            CHECK.due("pushed by 77", () -> x.register(5), want);
        }
        BlockCounter x = rewritten(Check.with(70, 0));
        x.run(false, 3000);
        CHECK.due("no ninth", () -> x.register(5), 8);
        x.run(true, 3000);
        CHECK.due("no ninth by 77", () -> x.register(5), 8);
        CHECK.dueRun(Check.with(70, 3, 0, 3), 9, 1, 3, 2, 0, 0);
    }

    private static void outputCount() {
        BlockCounter x = Check.with(12, 69, 0);
        for (int printed = 0; printed <= 40; printed++) {
            int want = printed;
            x.run(false, 2 * printed);
            CHECK.due("printed", () -> x.register(6), want);
        }
        x.run(false, 3000);
        CHECK.due("no 41st", () -> x.register(6), 40);
    }

    private static void noRegister() {
        BlockCounter x = leaving();
        x.run(false, 3000);
        CHECK.due("the first", () -> x.register(0), 1);
        CHECK.due("the last", () -> x.register(6), 9);
        for (int i : new int[] {LEAST, -1, 7, 8, 15, MOST}) {
            CHECK.dueRefusal("register " + i, OUT, x, () -> x.register(i));
            CHECK.dueThrow("before a run", OUT, () -> new BlockCounter().register(i));
        }
    }

    private static void cells() {
        BlockCounter x = Check.with(48, 9, 56, 15, 0);
        for (int i = 0; i < 16; i++) {
            x.data(i, i + 1);
        }
        for (int i = 0; i < 16; i++) {
            int k = i;
            CHECK.due("before any run " + i, () -> x.cell(k), 0);
        }
        x.run(false, 0);
        for (int i = 0; i < 16; i++) {
            int k = i;
            CHECK.due("after a run of none " + i, () -> x.cell(k), k + 1);
        }
        x.run(false, 99);
        CHECK.due("the first", () -> x.cell(0), 1);
        CHECK.due("the last", () -> x.cell(15), 9);
    }

    private static void noCell() {
        BlockCounter x = leaving();
        x.run(false, 3000);
        CHECK.due("the first", () -> x.cell(0), 1);
        CHECK.due("the last", () -> x.cell(15), 2);
        for (int i : new int[] {LEAST, -1, 16, 17, 255, MOST}) {
            CHECK.dueRefusal("cell " + i, OUT, x, () -> x.cell(i));
            CHECK.dueThrow("before a run", OUT, () -> new BlockCounter().cell(i));
        }
    }

    private static void output() {
        BlockCounter x = Check.with(4, 12, 68, 252);
        x.run(false, 3000);
        for (int i = 0; i < 40; i++) {
            int k = i;
            CHECK.due("number " + i, () -> x.output(k), k + 1);
        }
        BlockCounter y = Check.with(52, 0, 12, 53, 1, 13, 0);
        y.data(0, LEAST);
        y.data(1, MOST);
        y.run(false, 99);
        CHECK.due("the least", () -> y.output(0), LEAST);
        CHECK.due("the most", () -> y.output(1), MOST);
    }

    private static void noOutput() {
        BlockCounter x = Check.with(12, 69, 0);
        for (int printed = 0; printed <= 40; printed++) {
            int count = printed;
            x.run(false, 2 * printed);
            if (printed > 0) {
                CHECK.due("the last of " + printed, () -> x.output(count - 1), 0);
            }
            CHECK.dueThrow("behind the last of " + printed, OUT, () -> x.output(count));
            CHECK.dueThrow("number -1", OUT, () -> x.output(-1));
        }
        for (int i : new int[] {LEAST, -1, 40, 41, MOST}) {
            CHECK.dueRefusal("number " + i + " of 40", OUT, x, () -> x.output(i));
        }
        CHECK.dueThrow("before a run", OUT, () -> new BlockCounter().output(0));
        x.run(false, 0);
        CHECK.dueThrow("none of the run before", OUT, () -> x.output(0));
    }

    private static void counters() {
        BlockCounter x = rewritten(Check.with(69, 0));
        CHECK.due("original", () -> x.run(false, 3000), 0);
        CHECK.dueCounters(x, 3000, 0);
        CHECK.due("rewritten", () -> x.run(true, 3000), 0);
        CHECK.dueCounters(x, 1000, 0);
        x.run(true, 1);
        CHECK.dueCounters(x, 0, 0);
        x.run(true, 2);
        CHECK.dueCounters(x, 1, 0);
        int[] want = new int[64];
        want[0] = 2;
        want[63] = 2;
        BlockCounter y = Check.with(76, 0, 76, 64, 76, 63, 76, 127, 0);
        y.run(false, 99);
        CHECK.dueCounters(y, want);
    }

    private static void noCounter() {
        BlockCounter x = rewritten(leaving());
        x.run(true, 3000);
        CHECK.due("the first", () -> x.counter(0), 1);
        CHECK.due("the last", () -> x.counter(63), 0);
        for (int k : new int[] {LEAST, -64, -1, 64, 65, 128, MOST}) {
            CHECK.dueRefusal("counter " + k, OUT, x, () -> x.counter(k));
            CHECK.dueThrow("before a run", OUT, () -> new BlockCounter().counter(k));
        }
    }
}
