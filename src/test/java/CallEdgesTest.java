/** Promises 1 to 9: each sentence that names a boundary or a refusal has a test of its own. */
public final class CallEdgesTest {
    private static final Check CHECK = new Check("CallEdgesTest");
    private static final int LEAST = Integer.MIN_VALUE;
    private static final int MOST = Integer.MAX_VALUE;
    private static final Class<IndexOutOfBoundsException> OUT = IndexOutOfBoundsException.class;
    private static final Class<IllegalArgumentException> ARGUMENT = IllegalArgumentException.class;
    private static final Class<IllegalStateException> STATE = IllegalStateException.class;
    private static final Class<UnsupportedOperationException> UNSUPPORTED = UnsupportedOperationException.class;

    public static void main(String[] args) {
        CHECK.sentence("Promise 1: All bytes 0", CallEdgesTest::newBytes);
        CHECK.sentence("Promise 1: cells 0", CallEdgesTest::newCells);
        CHECK.sentence("Promise 1: nothing declared", CallEdgesTest::newTables);
        CHECK.sentence("Promise 2: its lowest 8 bits", CallEdgesTest::pokedBits);
        CHECK.sentence("Promise 2: perhaps what it is", CallEdgesTest::pokedTheSame);
        CHECK.sentence("Promise 2: analysis and rewriting are gone", CallEdgesTest::pokeForgets);
        CHECK.sentence("Promise 2: if the address is not 0 .. 95", CallEdgesTest::pokedAddress);
        CHECK.sentence("Promise 3: how many there are", CallEdgesTest::tableCount);
        CHECK.sentence("Promise 3: analysis and rewriting are gone", CallEdgesTest::declareForgets);
        CHECK.sentence("Promise 3: if it has not 1 to 96 addresses", CallEdgesTest::tableSize);
        CHECK.sentence("Promise 3: or would not lie in the code", CallEdgesTest::tablePlace);
        CHECK.sentence("Promise 3: if there are four", CallEdgesTest::fourTables);
        CHECK.sentence("Promise 4: A cell with which each run begins", CallEdgesTest::dataOfEachRun);
        CHECK.sentence("Promise 4: analysis, and what the latest run left, stay", CallEdgesTest::dataKeeps);
        CHECK.sentence("Promise 4: if there is none", CallEdgesTest::dataCell);
        CHECK.sentence("Promise 5: Analyses the code", CallEdgesTest::analysedAnew);
        CHECK.sentence("Promise 5: how many blocks", CallEdgesTest::fewestAndMostBlocks);
        CHECK.sentence("Promise 5: a rewritten program is gone", CallEdgesTest::analyseForgets);
        CHECK.sentence("Promise 5: if it is refused (there is no analysis then)", CallEdgesTest::refusedAnalysis);
        CHECK.sentence("Promise 6: if there is no such block", CallEdgesTest::noSuchBlock);
        CHECK.sentence("Promise 6: or no analysis", CallEdgesTest::noBlockWithoutAnalysis);
        CHECK.sentence("Promise 6: if there is no such what", CallEdgesTest::noSuchWhat);
        CHECK.sentence("Promise 7: The block in which an address of the code is", CallEdgesTest::blockAtEdges);
        CHECK.sentence("Promise 7: -1 if in none", CallEdgesTest::inNone);
        CHECK.sentence("Promise 7: or there is no analysis", CallEdgesTest::inNoneWithoutAnalysis);
        CHECK.sentence("Promise 8: always the original bytes, in place of a rewritten program",
                CallEdgesTest::rewriteAgain);
        CHECK.sentence("Promise 8: how many bytes of the section are used", CallEdgesTest::usedBytes);
        CHECK.sentence("Promise 8: if there is no analysis", CallEdgesTest::rewriteWithoutAnalysis);
        CHECK.sentence("Promise 8: if the section is too small (there is no rewritten program then)",
                CallEdgesTest::sectionTooSmall);
        CHECK.sentence("Promise 9: A byte .., 0 .. 255", CallEdgesTest::codeBytes);
        CHECK.sentence("Promise 9: if there is none such", CallEdgesTest::noSuchByte);
        CHECK.sentence("Promise 9: if there is no rewritten program and it is asked for", CallEdgesTest::noCode);
        CHECK.end();
    }

    /** Analysed and rewritten, and it has run: something is on the stack, in the output, in a cell. */
    private static BlockCounter busy() {
        BlockCounter x = Check.with(52, 3, 12, 4, 60, 1, 0, 59, 4, 70, 12, 0, 12, 0);
        x.declare(40, 2);
        x.data(3, -1);
        x.analyse();
        x.rewrite();
        x.run(true, 3000);
        return x;
    }

    private static void dueNoAnalysis(BlockCounter x) {
        CHECK.dueThrow("no block", OUT, () -> x.block(0, 0));
        for (int i = 0; i < 96; i++) {
            int address = i;
            CHECK.due("in no block", () -> x.blockAt(address), -1);
        }
        CHECK.dueThrow("nothing to rewrite", STATE, x::rewrite);
        dueNoRewriting(x);
    }

    private static void dueNoRewriting(BlockCounter x) {
        CHECK.dueThrow("no code", STATE, () -> x.code(0, true));
        CHECK.dueThrow("no code in the section", STATE, () -> x.code(96, true));
        CHECK.dueThrow("nothing to run", STATE, () -> x.run(true, 0));
    }

    private static void newBytes() {
        BlockCounter x = new BlockCounter();
        for (int i = 0; i < 256; i++) {
            int address = i;
            CHECK.due("byte " + i, () -> x.code(address, false), 0);
        }
        CHECK.dueRun(x, 1, 1, 1, 0, 0, 0);
    }

    private static void newCells() {
        BlockCounter x = new BlockCounter();
        x.run(false, 0);
        for (int i = 0; i < 16; i++) {
            int cell = i;
            CHECK.due("cell " + i, () -> x.cell(cell), 0);
        }
    }

    private static void newTables() {
        for (int base : new int[] {0, 1, 3, 95}) {
            CHECK.dueThrow("SWITCH", UNSUPPORTED, () -> Check.with(72, base, 1).analyse());
            CHECK.dueThrow("SWITCH", UNSUPPORTED, () -> Check.with(72, base, 0).analyse());
        }
        CHECK.due("the first one", () -> new BlockCounter().declare(3, 1), 1);
        dueNoAnalysis(new BlockCounter());
    }

    private static void pokedBits() {
        int[][] pairs = {{0, 0}, {1, 1}, {127, 127}, {128, 128}, {255, 255}, {256, 0}, {257, 1}, {-1, 255},
            {-128, 128}, {-255, 1}, {-256, 0}, {-257, 255}, {MOST, 255}, {LEAST, 0}, {0x7FFFFF80, 128}};
        BlockCounter x = new BlockCounter();
        for (int[] pair : pairs) {
            for (int address : new int[] {0, 95}) {
                x.poke(address, pair[0]);
                CHECK.due("poke of " + pair[0], () -> x.code(address, false), pair[1]);
            }
        }
    }

    private static void pokedTheSame() {
        for (int address : new int[] {0, 50, 95}) {
            BlockCounter x = busy();
            int value = x.code(address, false);
            x.poke(address, value);
            CHECK.due("it is as it was", () -> x.code(address, false), value);
            dueNoAnalysis(x);
        }
    }

    private static void pokeForgets() {
        for (int address : new int[] {0, 95}) {
            BlockCounter x = busy();
            String left = Check.left(x);
            x.poke(address, 1);
            dueNoAnalysis(x);
            CHECK.same("what the latest run left", Check.left(x), left);
        }
    }

    private static void pokedAddress() {
        BlockCounter x = new BlockCounter();
        x.poke(0, 5);
        x.poke(95, 6);
        CHECK.due("byte 0", () -> x.code(0, false), 5);
        CHECK.due("byte 95", () -> x.code(95, false), 6);
        BlockCounter y = busy();
        for (int address : new int[] {LEAST, -96, -1, 96, 97, 255, 256, MOST}) {
            CHECK.dueRefusal("poke at " + address, OUT, y, Check.act(() -> y.poke(address, 7)));
            CHECK.due("the section", () -> y.code(96, false), 0);
        }
    }

    private static void tableCount() {
        BlockCounter x = new BlockCounter();
        for (int i = 1; i <= 4; i++) {
            CHECK.due("the same one again", () -> x.declare(7, 2), i);
        }
        BlockCounter y = new BlockCounter();
        CHECK.due("first", () -> y.declare(7, 2), 1);
        CHECK.dueThrow("a refused one does not count", ARGUMENT, () -> y.declare(7, 0));
        y.poke(0, 1);
        y.data(0, 1);
        CHECK.due("second, after other calls", () -> y.declare(8, 3), 2);
        y.analyse();
        CHECK.due("third, after an analysis", () -> y.declare(9, 3), 3);
    }

    private static void declareForgets() {
        BlockCounter x = busy();
        String left = Check.left(x);
        for (int i = 2; i <= 4; i++) {
            CHECK.due("a table", () -> x.declare(40, 2), i);
            dueNoAnalysis(x);
            CHECK.same("what the latest run left", Check.left(x), left);
            x.analyse();
            x.rewrite();
        }
    }

    private static void tableSize() {
        for (int count : new int[] {1, 2, 95, 96}) {
            CHECK.due(count + " addresses", () -> new BlockCounter().declare(0, count), 1);
        }
        BlockCounter x = busy();
        for (int count : new int[] {LEAST, -96, -1, 0, 97, 256, MOST}) {
            CHECK.dueRefusal(count + " addresses", ARGUMENT, x, () -> x.declare(0, count));
        }
        CHECK.due("none of them was taken", () -> x.declare(0, 1), 2);
    }

    private static void tablePlace() {
        int[][] good = {{0, 1}, {95, 1}, {94, 2}, {1, 95}, {0, 96}, {48, 48}};
        for (int[] table : good) {
            CHECK.due(table[0] + ", " + table[1], () -> new BlockCounter().declare(table[0], table[1]), 1);
        }
        int[][] wrong = {{-1, 1}, {-1, 2}, {-1, 96}, {-96, 96}, {96, 1}, {95, 2}, {94, 3}, {2, 95}, {1, 96}, {48, 49},
            {255, 1}, {LEAST, 1}, {LEAST, 96}, {MOST, 1}, {MOST, 96}, {MOST - 95, 96}, {MOST, MOST}, {LEAST, LEAST},
            {1, MOST}, {96, 0}, {-1, 0}};
        BlockCounter x = busy();
        for (int[] table : wrong) {
            CHECK.dueRefusal(table[0] + ", " + table[1], ARGUMENT, x, () -> x.declare(table[0], table[1]));
        }
        CHECK.due("none of them was taken", () -> x.declare(0, 1), 2);
    }

    private static void fourTables() {
        BlockCounter x = busy();
        for (int i = 2; i <= 4; i++) {
            int base = 50 + 2 * i;
            CHECK.due("table " + i, () -> x.declare(base, 2), i);
        }
        x.analyse();
        x.rewrite();
        CHECK.dueRefusal("a fifth", STATE, x, () -> x.declare(3, 1));
        CHECK.dueRefusal("one that is there", STATE, x, () -> x.declare(40, 2));
        CHECK.dueRefusal("a wrong one", ARGUMENT, x, () -> x.declare(96, 1));
        CHECK.dueRefusal("one of none", ARGUMENT, x, () -> x.declare(0, 0));
        Check.put(x, 0, 72, 3, 1, 0);
        CHECK.dueThrow("the fifth was not taken", UNSUPPORTED, x::analyse);
        CHECK.dueThrow("a fifth, without an analysis", STATE, () -> x.declare(3, 1));
    }

    private static void dataOfEachRun() {
        BlockCounter x = Check.with(52, 15, 4, 56, 15, 0);
        x.analyse();
        x.rewrite();
        for (int value : new int[] {LEAST, -1, 0, 6, MOST - 1}) {
            x.data(0, value);
            x.data(15, value);
            for (int round = 0; round < 4; round++) {
                boolean rewritten = round % 2 == 1;
                CHECK.due("a run", () -> x.run(rewritten, 99), 1);
                CHECK.due("it does not begin with what a run left", () -> x.cell(15), value + 1);
                CHECK.due("the first cell", () -> x.cell(0), value);
            }
        }
        x.data(15, 8);
        x.data(15, 9);
        x.run(false, 0);
        CHECK.due("the later one", () -> x.cell(15), 9);
        x.poke(0, 0);
        x.run(false, 1);
        CHECK.due("it stays when the code changes", () -> x.cell(15), 9);
    }

    private static void dataKeeps() {
        BlockCounter x = busy();
        String before = Check.seen(x);
        for (int i = 0; i < 16; i++) {
            x.data(i, 1000 + i);
        }
        CHECK.same("what can be seen", Check.seen(x), before);
        CHECK.due("the rewritten program runs still", () -> x.run(true, 99), 1);
        CHECK.due("with the new cell", () -> x.cell(0), 1000);
    }

    private static void dataCell() {
        BlockCounter x = busy();
        for (int cell : new int[] {LEAST, -16, -1, 16, 17, 256, MOST}) {
            CHECK.dueRefusal("data of " + cell, OUT, x, Check.act(() -> x.data(cell, 5)));
        }
        x.run(false, 0);
        for (int i = 0; i < 16; i++) {
            int cell = i;
            CHECK.due("cell " + i, () -> x.cell(cell), cell == 3 ? -1 : 0);
        }
        x.data(0, 5);
        x.data(15, 6);
        x.run(false, 0);
        CHECK.due("the first", () -> x.cell(0), 5);
        CHECK.due("the last", () -> x.cell(15), 6);
    }

    /** 32 branches, each to a byte of its own behind them all: no code has more blocks. */
    private static BlockCounter manyBlocks() {
        BlockCounter x = new BlockCounter();
        for (int i = 0; i < 32; i++) {
            Check.put(x, 2 * i, 60, 62 - i);
        }
        return x;
    }

    /** Nothing of what an earlier analysis found has a part in it, refused or not. */
    private static void analysedAnew() {
        BlockCounter x = Check.with(72, 3, 2, 5, 6, 0, 0);
        x.declare(3, 2);
        CHECK.due("a table at 3 and 4", x::analyse, 3);
        Check.put(x, 0, 1, 1, 1, 5, 6);
        CHECK.due("instructions there", x::analyse, 1);
        CHECK.due("one block", () -> x.block(0, 1), 6);
        Check.put(x, 0, 48, 60, 69, 4);
        CHECK.due("longer ones", x::analyse, 2);
        CHECK.due("4 is the second head", () -> x.block(1, 0), 4);
        Check.put(x, 0, 69, 1);
        CHECK.dueThrow("refused, for a byte in common", UNSUPPORTED, x::analyse);
        Check.put(x, 0, 72, 3, 2, 5, 6);
        CHECK.due("the table again", x::analyse, 3);
        x.poke(6, 71);
        CHECK.dueThrow("refused, with the table found", UNSUPPORTED, x::analyse);
        Check.put(x, 0, 1, 1, 1, 5, 6, 0);
        CHECK.due("instructions there again", x::analyse, 1);
    }

    private static void fewestAndMostBlocks() {
        CHECK.due("one", () -> new BlockCounter().analyse(), 1);
        BlockCounter x = manyBlocks();
        CHECK.due("64", x::analyse, 64);
        CHECK.due("64 again", x::analyse, 64);
        CHECK.due("the last head", () -> x.block(63, 0), 95);
        CHECK.dueThrow("no 65th", OUT, () -> x.block(64, 0));
        CHECK.due("63 is its number", () -> x.blockAt(95), 63);
        x.poke(0, 0);
        CHECK.due("one again", x::analyse, 1);
        CHECK.due("nothing is left of the others", () -> x.blockAt(2), -1);
    }

    private static void analyseForgets() {
        BlockCounter x = busy();
        String left = Check.left(x);
        CHECK.due("analyse", x::analyse, 5);
        dueNoRewriting(x);
        CHECK.due("the analysis is there", () -> x.blockAt(0), 0);
        CHECK.same("what the latest run left", Check.left(x), left);
        CHECK.same("it can be rewritten", Check.told(x::rewrite), Check.told(() -> busy().rewrite()));
    }

    private static void refusedAnalysis() {
        BlockCounter x = busy();
        int first = x.code(0, false);
        String left = Check.left(x);
        x.poke(0, 71);
        for (int i = 0; i < 2; i++) {
            CHECK.dueThrow("refused", UNSUPPORTED, x::analyse);
            dueNoAnalysis(x);
        }
        CHECK.same("what the latest run left", Check.left(x), left);
        x.poke(0, first);
        CHECK.due("accepted", x::analyse, 5);
        // It is refused only at its end: nothing of what it found before stays.
        Check.put(x, 11, 71);
        CHECK.dueThrow("refused late", UNSUPPORTED, x::analyse);
        dueNoAnalysis(x);
        x.run(false, 3000);
        CHECK.dueCounters(x, 0, 0, 0, 0, 0, 0);
    }

    private static void noSuchBlock() {
        BlockCounter x = busy();
        CHECK.due("the first", () -> x.block(0, 0), 0);
        CHECK.due("the last", () -> x.block(4, 0), 12);
        for (int k : new int[] {LEAST, -1, 5, 6, 63, 64, 96, 256, MOST}) {
            for (int what = -1; what <= 3; what++) {
                int fact = what;
                CHECK.dueRefusal("block " + k + ", " + what, OUT, x, () -> x.block(k, fact));
            }
        }
    }

    private static void noBlockWithoutAnalysis() {
        BlockCounter x = busy();
        x.poke(95, 0);
        for (int what = -1; what <= 3; what++) {
            int fact = what;
            CHECK.dueThrow("none of a new object", OUT, () -> new BlockCounter().block(0, fact));
            CHECK.dueThrow("none after a poke", OUT, () -> x.block(0, fact));
            CHECK.dueThrow("nor the last", OUT, () -> x.block(4, fact));
        }
        x.analyse();
        CHECK.due("after an analysis", () -> x.block(4, 0), 12);
    }

    private static void noSuchWhat() {
        BlockCounter x = busy();
        int[][] facts = {{0, 6, 4}, {6, 1, 1}, {7, 4, 2}, {11, 1, 1}, {12, 2, 2}};
        for (int i = 0; i < facts.length; i++) {
            int k = i;
            for (int w = 0; w < 3; w++) {
                int what = w;
                CHECK.due("block " + k + ", " + w, () -> x.block(k, what), facts[k][what]);
            }
        }
        for (int what : new int[] {LEAST, -1, 3, 4, MOST}) {
            CHECK.dueRefusal("what " + what, ARGUMENT, x, () -> x.block(0, what));
            CHECK.dueRefusal("what " + what + " of the last", ARGUMENT, x, () -> x.block(4, what));
        }
    }

    private static void blockAtEdges() {
        BlockCounter x = Check.with(48, 0, 60, 91);
        x.analyse();
        CHECK.due("its first byte", () -> x.blockAt(0), 0);
        CHECK.due("the second byte of an instruction", () -> x.blockAt(1), 0);
        CHECK.due("its last byte", () -> x.blockAt(3), 0);
        CHECK.due("the next one", () -> x.blockAt(4), 1);
        CHECK.due("the last of the code", () -> x.blockAt(95), 2);
        BlockCounter full = new BlockCounter();
        for (int i = 0; i < 95; i++) {
            full.poke(i, 1);
        }
        full.analyse();
        for (int i = 0; i < 96; i++) {
            int address = i;
            CHECK.due("one block", () -> full.blockAt(address), 0);
        }
    }

    private static void inNone() {
        BlockCounter x = Check.with(72, 4, 1, 1, 6, 1, 0, 1);
        x.declare(4, 1);
        x.analyse();
        int[] want = {0, 0, 0, -1, -1, -1, 1, -1};
        for (int i = 0; i < want.length; i++) {
            int address = i;
            CHECK.due("address " + i, () -> x.blockAt(address), want[i]);
        }
        for (int address : new int[] {LEAST, -256, -1, 8, 95, 96, 97, 255, 256, MOST}) {
            CHECK.due("address " + address, () -> x.blockAt(address), -1);
        }
    }

    private static void inNoneWithoutAnalysis() {
        BlockCounter x = new BlockCounter();
        for (int address : new int[] {LEAST, -1, 0, 1, 95, 96, MOST}) {
            CHECK.due("address " + address, () -> x.blockAt(address), -1);
        }
        x.analyse();
        CHECK.due("with an analysis", () -> x.blockAt(0), 0);
        x.declare(0, 1);
        CHECK.due("without it", () -> x.blockAt(0), -1);
    }

    private static void rewriteAgain() {
        BlockCounter x = busy();
        String before = Check.seen(x);
        String used = Check.told(x::rewrite);
        CHECK.same("again", Check.told(x::rewrite), used);
        CHECK.same("the same program", Check.seen(x), before);
        // A longer one was there: nothing of it stays in the section, nor of its traps.
        Check.put(x, 0, 48, 1, 0);
        x.analyse();
        CHECK.due("a shorter one", x::rewrite, 6);
        CHECK.dueCode("its section", x, 96, 76, 0, 48, 1, 69, 2, 0, 0, 0, 0, 0, 0, 0, 0);
        CHECK.dueCode("its code", x, 0, 69, 96, 0, 4, 60, 1, 0, 59, 4, 70, 12, 0, 12, 0);
    }

    private static void usedBytes() {
        CHECK.due("the least", () -> rewriteOf(Check.with(0)), 3);
        CHECK.due("RETURN", () -> rewriteOf(Check.with(3)), 3);
        CHECK.due("69", () -> rewriteOf(Check.with(69, 0)), 4);
        CHECK.due("the most", () -> rewriteOf(branches(19, 70, 40)), 160);
    }

    private static int rewriteOf(BlockCounter x) {
        x.analyse();
        return x.rewrite();
    }

    /** Branches that take 8 bytes of the section each, then the other bytes. */
    private static BlockCounter branches(int count, int... others) {
        BlockCounter x = new BlockCounter();
        for (int i = 0; i < count; i++) {
            Check.put(x, 2 * i, 60, 0);
        }
        Check.put(x, 2 * count, others);
        return x;
    }

    private static void rewriteWithoutAnalysis() {
        CHECK.dueThrow("a new object", STATE, () -> new BlockCounter().rewrite());
        BlockCounter x = Check.with(0);
        CHECK.dueRefusal("before an analysis", STATE, x, x::rewrite);
        x.analyse();
        CHECK.due("with it", x::rewrite, 3);
        x.poke(0, 0);
        CHECK.dueRefusal("after a poke", STATE, x, x::rewrite);
        x.poke(0, 71);
        CHECK.dueThrow("refused", UNSUPPORTED, x::analyse);
        CHECK.dueRefusal("after a refused analysis", STATE, x, x::rewrite);
    }

    private static void sectionTooSmall() {
        // The last two blocks take 8 bytes, or 9 with one byte more in them.
        BlockCounter x = branches(19, 70, 40);
        x.analyse();
        CHECK.due("160 bytes", x::rewrite, 160);
        Check.put(x, 38, 1, 70, 41);
        x.analyse();
        CHECK.dueRefusal("161 bytes", UNSUPPORTED, x, x::rewrite);
        dueNoRewriting(x);
        CHECK.due("the analysis is there", () -> x.blockAt(41), 20);
        CHECK.due("the original runs", () -> x.run(false, 99), 1);
        CHECK.dueThrow("again", UNSUPPORTED, x::rewrite);
        x.poke(0, 0);
        x.analyse();
        CHECK.due("a smaller one after it", x::rewrite, 3);
        CHECK.dueCode("its section", x, 96, 76, 0, 0, 0, 0);
        BlockCounter many = manyBlocks();
        many.analyse();
        CHECK.dueRefusal("64 blocks", UNSUPPORTED, many, many::rewrite);
    }

    private static void codeBytes() {
        BlockCounter x = busy();
        x.poke(0, 255);
        x.poke(95, 128);
        CHECK.due("the first", () -> x.code(0, false), 255);
        CHECK.due("the last of the code", () -> x.code(95, false), 128);
        CHECK.due("the first of the section", () -> x.code(96, false), 0);
        CHECK.due("the last of the section", () -> x.code(255, false), 0);
        BlockCounter y = Check.with(48, 255, 0);
        y.poke(95, 200);
        y.analyse();
        y.rewrite();
        CHECK.dueCode("rewritten", y, 0, 69, 96, 0);
        CHECK.dueCode("rewritten", y, 95, 200, 76, 0, 48, 255, 69, 2, 0);
        CHECK.dueCode("rewritten", y, 255, 0);
    }

    private static void noSuchByte() {
        BlockCounter x = busy();
        for (int address : new int[] {LEAST, -1, 256, 257, MOST}) {
            CHECK.dueRefusal("code " + address, OUT, x, () -> x.code(address, false));
            CHECK.dueRefusal("rewritten code " + address, OUT, x, () -> x.code(address, true));
            CHECK.dueThrow("no rewritten code " + address, OUT, () -> new BlockCounter().code(address, true));
        }
    }

    private static void noCode() {
        BlockCounter x = Check.with(0);
        for (int address : new int[] {0, 95, 96, 255}) {
            CHECK.dueRefusal("rewritten", STATE, x, () -> x.code(address, true));
            CHECK.due("not asked for", () -> x.code(address, false), 0);
        }
        x.analyse();
        CHECK.dueRefusal("analysed only", STATE, x, () -> x.code(0, true));
        x.rewrite();
        CHECK.due("rewritten", () -> x.code(0, true), 2);
        x.poke(5, 5);
        CHECK.dueThrow("gone", STATE, () -> x.code(0, true));
    }
}
