/** Terms, analysis: each sentence that names what is refused, or where a block ends, has a test of its own. */
public final class AnalysisEdgesTest {
    private static final Check CHECK = new Check("AnalysisEdgesTest");

    public static void main(String[] args) {
        CHECK.sentence("not behind HALT, RETURN, 68, 69, SWITCH", AnalysisEdgesTest::notBehind);
        CHECK.sentence("behind each instruction to the next one", AnalysisEdgesTest::behind);
        CHECK.sentence("to where branches, 69, CALL go", AnalysisEdgesTest::whereTheyGo);
        CHECK.sentence("to all that the table of a SWITCH has", AnalysisEdgesTest::allOfATable);
        CHECK.sentence("REFUSED if it comes to a byte that is none, or 2, 76 or 77", AnalysisEdgesTest::bytes);
        CHECK.sentence("to an instruction that does not lie in the code", AnalysisEdgesTest::instructionInCode);
        CHECK.sentence("to a table that does not lie in the code", AnalysisEdgesTest::tableInCode);
        CHECK.sentence("to an address that does not lie in the code", AnalysisEdgesTest::addressInCode);
        CHECK.sentence("(the address behind an instruction, too)", AnalysisEdgesTest::addressBehindInCode);
        CHECK.sentence("N and M as they were declared", AnalysisEdgesTest::declared);
        CHECK.sentence("if two instructions have a byte in common", AnalysisEdgesTest::instructionsInCommon);
        CHECK.sentence("or an instruction and a table to which it came", AnalysisEdgesTest::tableInCommon);
        CHECK.sentence("HEADS are address 0", AnalysisEdgesTest::headZero);
        CHECK.sentence("behind a branch with a condition or a CALL", AnalysisEdgesTest::headsBehind);
        CHECK.sentence("up to one of HALT .. SWITCH (this one too)", AnalysisEdgesTest::ends);
        CHECK.sentence("or up to the next head", AnalysisEdgesTest::upToTheNextHead);
        CHECK.sentence("numbered by their heads, the least first", AnalysisEdgesTest::order);
        CHECK.end();
    }

    /** The heads, the bytes and the instructions of all blocks, in a text. */
    private static String blocks(BlockCounter x) {
        StringBuilder all = new StringBuilder(Check.told(x::analyse));
        String head = "";
        for (int i = 0; !head.equals("IndexOutOfBoundsException"); i++) {
            int k = i;
            all.append(head);
            head = Check.told(() -> x.block(k, 0));
            if (!head.equals("IndexOutOfBoundsException")) {
                head = " | " + head + " " + x.block(k, 1) + " " + x.block(k, 2);
            }
        }
        return all.toString();
    }

    private static void dueBlocks(BlockCounter x, String want) {
        CHECK.same("blocks", blocks(x), want);
    }

    private static void dueRefused(String name, BlockCounter x) {
        CHECK.same(name, blocks(x), "UnsupportedOperationException");
    }

    private static void dueCount(String name, int want, BlockCounter x) {
        CHECK.due(name, x::analyse, want);
    }

    private static BlockCounter at(int address, int... bytes) {
        BlockCounter x = Check.with(69, address);
        Check.put(x, address, bytes);
        return x;
    }

    private static BlockCounter table(int base, int count, int... bytes) {
        BlockCounter x = Check.with(bytes);
        x.declare(base, count);
        return x;
    }

    /** What is behind them is no instruction (71), and it lies in the code. */
    private static void notBehind() {
        dueCount("HALT", 1, Check.with(0, 71));
        dueCount("RETURN", 1, Check.with(3, 71));
        dueCount("68", 2, Check.with(68, 1, 71, 0));
        dueCount("69", 2, Check.with(69, 3, 71, 0));
        for (int r = 0; r < 4; r++) {
            dueCount("SWITCH", 2, table(4, 1, 72 + r, 4, 1, 71, 5, 0));
        }
    }

    private static void behind() {
        for (int first = 1; first < 71; first++) {
            if (first < 48 && first != 2 && first != 3) {
                dueRefused("behind " + first, Check.with(first, 71));
                dueCount("behind " + first, 1, Check.with(first, 0));
            } else if (first >= 48 && first < 60) {
                dueRefused("behind " + first, Check.with(first, 0, 71));
                dueCount("behind " + first, 1, Check.with(first, 0, 0));
            } else if (first >= 60 && first < 68) {
                dueRefused("behind " + first, Check.with(first, 1, 71, 0));
                dueCount("behind " + first, 3, Check.with(first, 1, 0, 0));
            }
        }
        dueRefused("behind CALL", Check.with(70, 3, 71, 0));
        dueCount("behind CALL", 3, Check.with(70, 3, 0, 0));
    }

    private static void whereTheyGo() {
        for (int first = 60; first < 69; first++) {
            dueRefused("by " + first, Check.with(first, 1, 0, 71));
            dueRefused("back by " + first, Check.with(69, 3, 71, first, 253, 0));
        }
        dueRefused("by 69", Check.with(69, 3, 0, 71));
        dueRefused("by CALL", Check.with(70, 3, 0, 71));
    }

    private static void allOfATable() {
        for (int r = 0; r < 4; r++) {
            dueCount("all good", 5, table(3, 4, 72 + r, 3, 4, 7, 8, 9, 10));
            for (int i = 7; i < 11; i++) {
                BlockCounter x = table(3, 4, 72 + r, 3, 4, 7, 8, 9, 10);
                x.poke(i, 71);
                dueRefused("entry " + (i - 7), x);
            }
        }
    }

    private static void bytes() {
        for (int first = 0; first < 256; first++) {
            boolean refused = first == 71 || first > 77 || first == 2 || first == 76 || first == 77;
            // A table for 72 to 75, and a place to which the others may go.
            BlockCounter x = table(10, 1, first, 10, 1, 1, 1, 0);
            x.poke(10, 12);
            CHECK.same("refused with " + first, Boolean.toString(blocks(x).startsWith("U")), Boolean.toString(refused));
            dueCount("not come to: " + first, 1, Check.with(0, first));
        }
    }

    private static void instructionInCode() {
        dueCount("one byte at 95", 2, at(95, 0));
        dueCount("one byte at 95", 2, at(95, 3));
        dueCount("68 at 94", 2, at(94, 68, 254));
        dueCount("69 at 94", 2, at(94, 69, 0));
        for (int first = 48; first < 71; first++) {
            dueRefused(first + " at 95", at(95, first));
        }
        for (int r = 0; r < 4; r++) {
            BlockCounter good = at(93, 72 + r, 92, 1);
            good.declare(92, 1);
            dueCount("SWITCH at 93", 2, good);
            BlockCounter two = at(94, 72 + r, 92);
            two.declare(92, 1);
            dueRefused("SWITCH at 94", two);
            dueRefused("SWITCH at 95", at(95, 72 + r));
        }
    }

    private static void tableInCode() {
        BlockCounter last = Check.with(72, 95, 1);
        last.declare(95, 1);
        last.poke(95, 3);
        dueCount("a table at 95", 2, last);
        BlockCounter most = Check.with(72, 3, 93);
        Check.put(most, 3, 0);
        most.declare(3, 93);
        dueCount("93 addresses up to 95, all of them 0", 1, most);
        // No such tables can be declared.
        dueRefused("a table at 96", Check.with(72, 96, 1));
        dueRefused("a table over the end", Check.with(72, 95, 2));
        dueRefused("a table over the end", Check.with(72, 3, 94));
        dueRefused("a table of none", Check.with(72, 3, 0));
    }

    private static void addressInCode() {
        for (int first = 60; first < 69; first++) {
            int blocks = first == 68 ? 2 : 3;
            dueCount(first + " to 95", blocks, Check.with(first, 93));
            dueRefused(first + " to 96", Check.with(first, 94));
            dueRefused(first + " to 129", Check.with(first, 127));
            dueCount(first + " to 0", blocks - 1, Check.with(first, 254));
            dueRefused(first + " to -1", Check.with(first, 253));
            dueRefused(first + " to -126", Check.with(first, 128));
        }
        dueCount("69 to 0", 1, Check.with(69, 0));
        dueCount("69 to 95", 2, Check.with(69, 95));
        dueRefused("69 to 96", Check.with(69, 96));
        dueRefused("69 to 255", Check.with(69, 255));
        dueCount("CALL to 0", 2, Check.with(70, 0));
        dueCount("CALL to 95", 3, Check.with(70, 95));
        dueRefused("CALL to 96", Check.with(70, 96));
        dueRefused("CALL to 255", Check.with(70, 255));
        dueCount("a table to 0", 1, table(3, 1, 72, 3, 1, 0));
        dueCount("a table to 95", 2, table(3, 1, 72, 3, 1, 95));
        dueRefused("a table to 96", table(3, 1, 72, 3, 1, 96));
        dueRefused("a table to 255", table(3, 1, 72, 3, 1, 255));
        dueRefused("its last one to 96", table(3, 3, 72, 3, 3, 6, 6, 96));
        dueCount("what is behind it is not of the table", 2, table(3, 3, 72, 3, 3, 6, 6, 6, 0, 96));
    }

    private static void addressBehindInCode() {
        for (int first : new int[] {1, 4, 8, 12, 15, 16, 31, 32, 47}) {
            dueCount(first + " at 94", 2, at(94, first));
            dueRefused(first + " at 95", at(95, first));
        }
        for (int first = 48; first < 60; first++) {
            dueCount(first + " at 93", 2, at(93, first));
            dueRefused(first + " at 94", at(94, first));
        }
        for (int first = 60; first < 68; first++) {
            dueCount(first + " at 93", 3, at(93, first, 254));
            dueRefused(first + " at 94", at(94, first, 254));
        }
        dueCount("CALL at 93", 3, at(93, 70, 0));
        dueRefused("CALL at 94", at(94, 70, 0));
    }

    private static void declared() {
        for (int r = 0; r < 4; r++) {
            BlockCounter x = Check.with(72 + r, 5, 3, 0, 0, 0, 0, 0, 0, 0);
            dueRefused("no table", x);
            int[][] others = {{5, 2}, {5, 4}, {4, 3}};
            for (int[] other : others) {
                x.declare(other[0], other[1]);
                dueRefused("another table " + other[0] + ", " + other[1], x);
            }
            x.declare(5, 3);
            dueCount("the fourth table", 1, x);
            x.poke(1, 4);
            dueCount("the third table", 1, x);
            Check.put(x, 1, 5, 4);
            dueCount("the second table", 1, x);
            x.poke(2, 2);
            dueCount("the first table", 1, x);
            x.poke(1, 6);
            dueRefused("one further on", x);
        }
        BlockCounter larger = table(5, 3, 72, 6, 2);
        dueRefused("a part of a table", larger);
    }

    /** All of the refused ones would be good if it were not for the byte in common. */
    private static void instructionsInCommon() {
        dueCount("one behind the other", 3, Check.with(60, 2, 48, 0, 0));
        dueRefused("the second byte of 48", Check.with(60, 1, 48, 0, 0));
        dueRefused("the second byte of 60", Check.with(60, 1, 60, 0, 0));
        dueRefused("the second byte of 69 itself", Check.with(69, 1, 0));
        dueRefused("the second byte of CALL itself", Check.with(70, 1, 0));
        dueRefused("back to a second byte", Check.with(48, 1, 68, 253));
        dueCount("back to a first byte", 1, Check.with(48, 1, 68, 252));
        dueCount("behind a SWITCH", 3, table(10, 1, 60, 3, 72, 10, 1, 0));
        dueRefused("the third byte of a SWITCH", table(10, 1, 60, 2, 72, 10, 1, 0));
        dueRefused("the second byte of a SWITCH", table(10, 1, 60, 1, 72, 10, 1, 0));
        dueCount("the one at 4 is not come to", 2, Check.with(69, 5, 71, 71, 48, 12, 68, 253));
        dueRefused("the one at 4 is come to later", Check.with(69, 5, 71, 71, 48, 12, 68, 252));
        dueCount("the same one twice", 3, Check.with(60, 0, 60, 252, 0));
    }

    /** All of the refused ones would be good if it were not for the byte in common. */
    private static void tableInCommon() {
        dueCount("between two instructions", 4, table(5, 2, 60, 5, 72, 5, 2, 7, 9, 9, 0, 0));
        dueRefused("with the first byte behind it", table(5, 3, 60, 5, 72, 5, 3, 7, 9, 9, 0, 0));
        BlockCounter behind = at(20, 72, 23, 2, 3, 3);
        behind.declare(23, 2);
        dueCount("behind its SWITCH", 3, behind);
        BlockCounter inside = at(20, 72, 22, 3, 3, 3);
        inside.declare(22, 3);
        dueRefused("with the last byte of its SWITCH", inside);
        dueRefused("with the second byte of an instruction", table(8, 1, 60, 5, 72, 8, 1, 0, 0, 48, 9, 0));
        dueCount("which is not come to", 3, table(8, 1, 60, 7, 72, 8, 1, 0, 0, 48, 9, 0));
        dueRefused("all of the code", table(0, 96, 73, 0, 96));
        dueCount("a table that is declared, but not come to", 1, table(0, 96, 48, 0, 0));
        BlockCounter two = table(8, 2, 60, 3, 72, 8, 2, 72, 9, 2, 11, 11, 11, 0);
        two.declare(9, 2);
        dueCount("two tables", 4, two);
    }

    private static void headZero() {
        dueBlocks(new BlockCounter(), "1 | 0 1 1");
        BlockCounter full = new BlockCounter();
        for (int i = 0; i < 95; i++) {
            full.poke(i, 4);
        }
        dueBlocks(full, "1 | 0 96 96");
        dueBlocks(Check.with(1, 69, 0), "1 | 0 3 2");
    }

    /** Behind 68, 69, HALT, RETURN and SWITCH there is a head only if something goes there. */
    private static void headsBehind() {
        for (int first = 60; first < 68; first++) {
            dueBlocks(Check.with(first, 254, 1, 0), "2 | 0 2 1 | 2 2 2");
        }
        dueBlocks(Check.with(70, 0, 1, 0), "2 | 0 2 1 | 2 2 2");
        dueBlocks(Check.with(68, 254, 1, 0), "1 | 0 2 1");
        dueBlocks(Check.with(69, 0, 1, 0), "1 | 0 2 1");
        dueBlocks(Check.with(0, 1, 0), "1 | 0 1 1");
        dueBlocks(Check.with(3, 1, 0), "1 | 0 1 1");
        dueBlocks(table(5, 1, 72, 5, 1, 1, 0), "1 | 0 3 1");
    }

    private static void ends() {
        dueBlocks(Check.with(1, 0, 0), "1 | 0 2 2");
        dueBlocks(Check.with(1, 3, 0), "1 | 0 2 2");
        for (int first = 60; first < 68; first++) {
            dueBlocks(Check.with(1, first, 253, 0), "2 | 0 3 2 | 3 1 1");
        }
        dueBlocks(Check.with(1, 68, 253, 0), "1 | 0 3 2");
        dueBlocks(Check.with(1, 69, 0, 0), "1 | 0 3 2");
        dueBlocks(Check.with(1, 70, 0, 0), "2 | 0 3 2 | 3 1 1");
        for (int r = 0; r < 4; r++) {
            dueBlocks(table(9, 1, 1, 72 + r, 9, 1, 0), "1 | 0 4 2");
        }
        // The last ones below and above those that end a block.
        dueBlocks(Check.with(1, 59, 0, 47, 0), "1 | 0 5 4");
    }

    private static void upToTheNextHead() {
        dueBlocks(Check.with(1, 1, 68, 253), "2 | 0 1 1 | 1 3 2");
        dueBlocks(Check.with(48, 7, 1, 68, 253), "2 | 0 2 1 | 2 3 2");
        dueBlocks(Check.with(1, 48, 7, 1, 68, 253), "2 | 0 3 2 | 3 3 2");
        dueBlocks(Check.with(1, 1, 1, 60, 252, 60, 251, 0), "5 | 0 1 1 | 1 1 1 | 2 3 2 | 5 2 1 | 7 1 1");
    }

    private static void order() {
        dueBlocks(Check.with(69, 8, 0, 0, 69, 3, 0, 0, 69, 4), "4 | 0 2 1 | 3 1 1 | 4 2 1 | 8 2 1");
        dueBlocks(table(3, 3, 72, 3, 3, 95, 50, 7), "4 | 0 3 1 | 7 1 1 | 50 1 1 | 95 1 1");
    }
}
