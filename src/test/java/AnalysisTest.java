/** Heads, blocks and all that is refused: promises 5 to 7. */
public final class AnalysisTest {
    private static final Check CHECK = new Check("AnalysisTest");

    public static void main(String[] args) {
        oneBlock();
        headsOfEachKind();
        fallThrough();
        behindTheEndOfABlock();
        tables();
        refusedBytes();
        refusedAddresses();
        refusedTables();
        refusedOverlaps();
        notReached();
        mostBlocks();
        CHECK.end();
    }

    /** Rows of head, bytes, instructions. */
    private static void dueBlocks(String name, BlockCounter x, int[]... rows) {
        CHECK.due(name + ": blocks", x::analyse, rows.length);
        for (int i = 0; i < rows.length; i++) {
            int k = i;
            for (int j = 0; j < 3; j++) {
                int what = j;
                CHECK.due(name + ": block " + k + ", " + what, () -> x.block(k, what), rows[k][what]);
            }
        }
        for (int k : new int[] {Integer.MIN_VALUE, -1, rows.length, 96, Integer.MAX_VALUE}) {
            CHECK.dueThrow(name + ": block " + k, IndexOutOfBoundsException.class, () -> x.block(k, 0));
            CHECK.dueThrow(name + ": block " + k + ", 3", IndexOutOfBoundsException.class, () -> x.block(k, 3));
        }
        for (int what : new int[] {Integer.MIN_VALUE, -1, 3, Integer.MAX_VALUE}) {
            CHECK.dueThrow(name + ": what " + what, IllegalArgumentException.class, () -> x.block(0, what));
        }
        dueAddresses(name, x, rows);
    }

    private static void dueAddresses(String name, BlockCounter x, int[][] rows) {
        for (int address = -2; address < 260; address++) {
            int a = address;
            int want = -1;
            for (int k = 0; k < rows.length; k++) {
                if (a >= rows[k][0] && a < rows[k][0] + rows[k][1]) {
                    want = k;
                }
            }
            CHECK.due(name + ": blockAt " + a, () -> x.blockAt(a), want);
        }
        CHECK.due(name + ": blockAt far below", () -> x.blockAt(Integer.MIN_VALUE), -1);
        CHECK.due(name + ": blockAt far above", () -> x.blockAt(Integer.MAX_VALUE), -1);
    }

    private static void dueRefused(String name, BlockCounter x) {
        CHECK.dueThrow(name, UnsupportedOperationException.class, x::analyse);
        CHECK.dueThrow(name + ": no block", IndexOutOfBoundsException.class, () -> x.block(0, 0));
        CHECK.dueThrow(name + ": no block, no such what", IndexOutOfBoundsException.class, () -> x.block(0, 3));
        CHECK.due(name + ": no blockAt", () -> x.blockAt(0), -1);
        CHECK.dueThrow(name + ": no rewriting", IllegalStateException.class, x::rewrite);
    }

    private static int[] row(int head, int bytes, int instructions) {
        return new int[] {head, bytes, instructions};
    }

    private static void oneBlock() {
        dueBlocks("HALT", Check.with(0), row(0, 1, 1));
        dueBlocks("RETURN", Check.with(3, 71), row(0, 1, 1));
        dueBlocks("all kinds", Check.with(1, 4, 11, 12, 31, 47, 48, 2, 52, 76, 59, 77, 0), row(0, 13, 10));
        dueBlocks("to itself", Check.with(69, 0), row(0, 2, 1));
        BlockCounter full = new BlockCounter();
        for (int i = 0; i < 95; i++) {
            full.poke(i, 1);
        }
        dueBlocks("the whole code", full, row(0, 96, 96));
    }

    private static void headsOfEachKind() {
        dueBlocks("60", Check.with(61, 3, 0, 71, 71, 0), row(0, 2, 1), row(2, 1, 1), row(5, 1, 1));
        dueBlocks("64", Check.with(67, 3, 0, 71, 71, 0), row(0, 2, 1), row(2, 1, 1), row(5, 1, 1));
        dueBlocks("68", Check.with(68, 3, 71, 71, 71, 0), row(0, 2, 1), row(5, 1, 1));
        dueBlocks("69", Check.with(69, 5, 71, 71, 71, 3), row(0, 2, 1), row(5, 1, 1));
        dueBlocks("70", Check.with(70, 5, 0, 71, 71, 3), row(0, 2, 1), row(2, 1, 1), row(5, 1, 1));
        dueBlocks("back", Check.with(1, 60, 253, 0), row(0, 3, 2), row(3, 1, 1));
        dueBlocks("the next one", Check.with(60, 0, 0), row(0, 2, 1), row(2, 1, 1));
    }

    private static void fallThrough() {
        dueBlocks("into a head", Check.with(1, 48, 2, 4, 60, 253, 0),
                row(0, 3, 2), row(3, 3, 2), row(6, 1, 1));
        dueBlocks("one byte each", Check.with(1, 1, 1, 60, 252, 60, 251, 0),
                row(0, 1, 1), row(1, 1, 1), row(2, 3, 2), row(5, 2, 1), row(7, 1, 1));
    }

    /** What is behind 68 or a RETURN is no head if nothing goes there, and is not come to. */
    private static void behindTheEndOfABlock() {
        dueBlocks("behind 68", Check.with(68, 1, 255, 0), row(0, 2, 1), row(3, 1, 1));
        dueBlocks("behind RETURN", Check.with(70, 3, 0, 3, 255), row(0, 2, 1), row(2, 1, 1), row(3, 1, 1));
        dueBlocks("behind HALT", Check.with(0, 2, 76, 77), row(0, 1, 1));
    }

    private static BlockCounter withTable() {
        BlockCounter x = Check.with(74, 5, 3, 0, 0, 3, 4, 8, 0);
        x.declare(5, 3);
        return x;
    }

    private static void tables() {
        dueBlocks("SWITCH", withTable(), row(0, 3, 1), row(3, 1, 1), row(4, 1, 1), row(8, 1, 1));
        BlockCounter x = Check.with(60, 3, 72, 8, 2, 73, 9, 2, 11, 11, 0, 3);
        x.declare(8, 2);
        x.declare(9, 2);
        // Two tables may have a byte in common.
        dueBlocks("two tables", x, row(0, 2, 1), row(2, 3, 1), row(5, 3, 1), row(11, 1, 1));
    }

    private static void refusedBytes() {
        for (int first = 0; first < 256; first++) {
            boolean none = first == 71 || first > 77;
            boolean ofRewriting = first == 2 || first == 76 || first == 77;
            if (none || ofRewriting) {
                dueRefused("at once " + first, Check.with(first));
                dueRefused("behind " + first, Check.with(1, first));
                dueRefused("by a branch " + first, Check.with(60, 1, 0, first));
                dueRefused("behind a CALL " + first, Check.with(70, 3, first, 3));
            } else if (first < 60) {
                BlockCounter x = Check.with(first, 71, 0);
                if (first < 48 && first != 0 && first != 3) {
                    dueRefused("behind " + first, x);
                } else {
                    CHECK.due("one block of " + first, x::analyse, 1);
                }
            }
        }
    }

    private static void refusedAddresses() {
        dueRefused("69 to the section", Check.with(69, 96));
        dueRefused("CALL to the section", Check.with(70, 96));
        dueRefused("68 before 0", Check.with(68, 253));
        dueRefused("68 to the section", Check.with(68, 94));
        dueRefused("60 before 0", Check.with(60, 253));
        dueRefused("64 to the section", Check.with(64, 127));
        CHECK.due("68 to the last byte", () -> Check.with(68, 93).analyse(), 2);
        CHECK.due("69 to the last byte", () -> Check.with(69, 95).analyse(), 2);
        int[] oneByte = {1, 4, 15, 16, 47};
        for (int first : oneByte) {
            dueRefused("behind the last byte", atTheEnd(95, first));
        }
        for (int first = 48; first < 76; first++) {
            if (first != 71) {
                dueRefused("an instruction over the end", atTheEnd(95, first));
            }
        }
        dueRefused("behind 48 at the end", atTheEnd(94, 48, 0));
        dueRefused("behind 60 at the end", atTheEnd(94, 60, 254));
        dueRefused("behind CALL at the end", atTheEnd(94, 70, 0));
        CHECK.due("68 at the end", () -> atTheEnd(94, 68, 254).analyse(), 2);
        CHECK.due("69 at the end", () -> atTheEnd(94, 69, 0).analyse(), 2);
        CHECK.due("RETURN at the end", () -> atTheEnd(95, 3).analyse(), 2);
        switchAtTheEnd();
    }

    private static void switchAtTheEnd() {
        BlockCounter x = atTheEnd(93, 72, 2, 1);
        x.declare(2, 1);
        CHECK.due("SWITCH at the end", x::analyse, 2);
        BlockCounter over = atTheEnd(94, 72, 2);
        over.declare(2, 1);
        dueRefused("SWITCH over the end", over);
    }

    private static BlockCounter atTheEnd(int address, int... bytes) {
        BlockCounter x = Check.with(69, address);
        Check.put(x, address, bytes);
        return x;
    }

    private static void refusedTables() {
        BlockCounter x = Check.with(72, 5, 3, 0, 0, 3, 3, 3);
        dueRefused("not declared", x);
        x.declare(5, 2);
        dueRefused("shorter", x);
        x.declare(4, 3);
        dueRefused("elsewhere", x);
        x.declare(5, 3);
        CHECK.due("declared", x::analyse, 2);
        x.poke(7, 96);
        dueRefused("a table to the section", x);
        x.poke(7, 95);
        CHECK.due("a table to the last byte", x::analyse, 3);
        x.poke(7, 5);
        dueRefused("a table to itself", x);
        dueRefused("no address", Check.with(72, 5, 0));
        dueRefused("a table over the end", Check.with(72, 95, 2));
    }

    private static void refusedOverlaps() {
        dueRefused("into an instruction", Check.with(60, 1, 48, 0, 0));
        dueRefused("into itself", Check.with(68, 255));
        dueRefused("the one before runs in", Check.with(60, 1, 48, 4, 0));
        BlockCounter x = withTable();
        x.poke(0, 60);
        CHECK.due("HALT", x::analyse, 3);
        BlockCounter first = Check.with(72, 3, 2, 5, 6, 0, 0);
        first.declare(3, 2);
        CHECK.due("a table behind its SWITCH", first::analyse, 3);
        BlockCounter own = Check.with(72, 2, 1);
        own.declare(2, 1);
        dueRefused("a table in its SWITCH", own);
        BlockCounter inside = Check.with(72, 4, 2, 48, 3, 3, 0);
        inside.declare(4, 2);
        dueRefused("a table in an instruction", inside);
        BlockCounter last = Check.with(60, 4, 72, 5, 1, 6, 48, 0, 0);
        last.declare(5, 1);
        CHECK.due("a table before an instruction", last::analyse, 3);
    }

    /** A table that is declared, but to which it does not come, may lie anywhere. */
    private static void notReached() {
        BlockCounter x = Check.with(48, 200, 0);
        x.declare(0, 96);
        CHECK.due("an idle table", x::analyse, 1);
        BlockCounter idle = Check.with(0, 72, 1, 1);
        CHECK.due("an idle SWITCH", idle::analyse, 1);
    }

    private static void mostBlocks() {
        BlockCounter x = new BlockCounter();
        for (int i = 0; i < 32; i++) {
            Check.put(x, 2 * i, 60, 62 - i);
        }
        CHECK.due("64 blocks", x::analyse, 64);
        CHECK.due("the last head", () -> x.block(63, 0), 95);
        CHECK.due("its number", () -> x.blockAt(95), 63);
        CHECK.dueThrow("too many for the section", UnsupportedOperationException.class, x::rewrite);
        x.run(false, 3000);
        CHECK.due("the first", () -> x.counter(0), 1);
        CHECK.due("its branch", () -> x.counter(32), 1);
        for (int i = 64; i < 96; i++) {
            x.poke(i, 1);
        }
        x.poke(95, 0);
        x.analyse();
        x.run(false, 3000);
        CHECK.due("the last counter", () -> x.counter(63), 1);
    }
}
