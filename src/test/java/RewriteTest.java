/** The new code byte by byte, the section's size, and the same behaviour: promises 8 to 10. */
public final class RewriteTest {
    private static final Check CHECK = new Check("RewriteTest");

    public static void main(String[] args) {
        oneByteBlocks();
        eachKindFirst();
        eachKindSecond();
        firstsOfThree();
        blocksInOrder();
        sectionJustFull();
        trapsAreForgotten();
        sameBehaviour();
        CHECK.end();
    }

    /** The bytes of the first block's new code, and the block's own bytes after it was rewritten. */
    private static void dueFirst(String name, BlockCounter x, int[] hooked, int... want) {
        x.analyse();
        String told = Check.told(x::rewrite);
        CHECK.dueCode(name, x, 96, 76, 0);
        CHECK.dueCode(name, x, 98, want);
        CHECK.dueCode(name, x, 0, hooked);
        if (Check.told(() -> x.block(1, 0)).equals("IndexOutOfBoundsException")) {
            CHECK.same(name + ": used", told, Integer.toString(2 + want.length));
            CHECK.dueCode(name + ": rest", x, 98 + want.length, 0, 0);
        } else {
            CHECK.dueCode(name + ": the next one", x, 98 + want.length, 76, 1);
        }
    }

    private static int[] bytes(int... all) {
        return all;
    }

    private static void oneByteBlocks() {
        dueFirst("HALT", Check.with(0), bytes(2, 0), 0);
        dueFirst("RETURN", Check.with(3, 9), bytes(2, 9), 3);
        // The block behind it begins with address 1.
        dueFirst("one that goes on", Check.with(5, 61, 254, 0), bytes(2, 69, 101), 5, 69, 1);
    }

    private static void eachKindFirst() {
        dueFirst("48", Check.with(49, 200, 0), bytes(69, 96, 0), 49, 200, 69, 2);
        dueFirst("52", Check.with(53, 200, 3), bytes(69, 96, 3), 53, 200, 69, 2);
        dueFirst("56", Check.with(59, 77, 0), bytes(69, 96, 0), 59, 77, 69, 2);
        dueFirst("60", Check.with(62, 1, 0, 0), bytes(69, 96, 2, 2), 62, 2, 69, 2, 69, 3);
        dueFirst("64", Check.with(65, 254, 0), bytes(69, 96, 2), 65, 2, 69, 2, 69, 0);
        dueFirst("68", Check.with(68, 1, 255, 0), bytes(69, 96, 255, 2), 69, 3);
        dueFirst("68 to itself", Check.with(68, 254), bytes(69, 96), 69, 0);
        dueFirst("69", Check.with(69, 3, 255, 0), bytes(69, 96, 255, 2), 69, 3);
        dueFirst("70", Check.with(70, 3, 0, 3), bytes(69, 96, 2, 2), 77, 3, 2);
        BlockCounter x = Check.with(74, 3, 1, 4, 0);
        x.declare(3, 1);
        dueFirst("72", x, bytes(69, 96, 1, 4, 2), 74, 3, 1);
    }

    private static void eachKindSecond() {
        dueFirst("HALT", Check.with(4, 0), bytes(69, 96), 4, 0);
        dueFirst("RETURN", Check.with(4, 3), bytes(69, 96), 4, 3);
        dueFirst("one byte", Check.with(4, 12, 0), bytes(69, 96, 0), 4, 12, 69, 2);
        dueFirst("48", Check.with(4, 48, 1, 0), bytes(69, 96, 1, 0), 4, 48, 1, 69, 3);
        dueFirst("60", Check.with(4, 60, 1, 0, 0), bytes(69, 96, 1), 4, 60, 2, 69, 3, 69, 4);
        dueFirst("68", Check.with(4, 68, 0, 0), bytes(69, 96, 0), 4, 69, 3);
        dueFirst("69", Check.with(4, 69, 3, 0), bytes(69, 96, 3), 4, 69, 3);
        dueFirst("70", Check.with(4, 70, 4, 0, 3), bytes(69, 96, 4), 4, 77, 4, 3);
        BlockCounter x = Check.with(4, 73, 4, 1, 5, 0);
        x.declare(4, 1);
        dueFirst("72", x, bytes(69, 96, 4, 1, 5, 2), 4, 73, 4, 1);
    }

    private static void firstsOfThree() {
        dueFirst("three", Check.with(4, 5, 6, 0), bytes(69, 96, 6, 0), 4, 5, 69, 2);
        dueFirst("two and more", Check.with(48, 9, 60, 0, 0), bytes(69, 96, 60, 0), 48, 9, 69, 2);
    }

    /** The second program of the shared tests, all of its section. */
    private static void blocksInOrder() {
        BlockCounter x = Check.with(48, 3, 12, 8, 60, 2, 68, 250, 70, 11, 0, 52, 2, 13, 3);
        x.analyse();
        CHECK.due("used", x::rewrite, 30);
        CHECK.dueCode("section", x, 96, 76, 0, 48, 3, 69, 2, 76, 1, 12, 8, 69, 4, 76, 2, 69, 2,
                76, 3, 77, 11, 10, 76, 4, 0, 76, 5, 52, 2, 69, 13, 0);
        CHECK.dueCode("code", x, 0, 69, 96, 69, 102, 60, 2, 69, 108, 69, 112, 2, 69, 120, 13, 3, 0);
    }

    /** 19 branches take 152 bytes of the section, the rest 8 or 9. */
    private static void sectionJustFull() {
        BlockCounter x = new BlockCounter();
        for (int i = 0; i < 19; i++) {
            Check.put(x, 2 * i, 60, 0);
        }
        Check.put(x, 38, 70, 40, 0);
        CHECK.due("blocks", x::analyse, 21);
        CHECK.due("all of the section", x::rewrite, 160);
        CHECK.due("its last byte", () -> x.code(254, true), 20);
        CHECK.due("HALT there", () -> x.run(true, 3000), 1);
        CHECK.due("its address", () -> x.register(4), 255);
        Check.put(x, 38, 1, 70, 41, 0);
        CHECK.due("blocks", x::analyse, 21);
        CHECK.dueThrow("one byte more", UnsupportedOperationException.class, x::rewrite);
        CHECK.dueThrow("no rewritten program", IllegalStateException.class, () -> x.code(0, true));
        CHECK.dueThrow("none to run", IllegalStateException.class, () -> x.run(true, 9));
        CHECK.due("the analysis stays", () -> x.blockAt(41), 20);
        CHECK.due("the original is whole", () -> x.code(0, false), 60);
        CHECK.dueThrow("once more", UnsupportedOperationException.class, x::rewrite);
    }

    private static void trapsAreForgotten() {
        BlockCounter x = Check.with(0);
        x.analyse();
        x.rewrite();
        CHECK.due("by a trap", () -> x.run(true, 9), 1);
        CHECK.due("TRAP, 76, HALT", x::steps, 3);
        CHECK.due("HALT's own address", () -> x.register(4), 98);
        x.poke(0, 2);
        CHECK.due("no trap in the original", () -> x.run(false, 9), 2);
        Check.put(x, 0, 69, 95);
        x.analyse();
        x.rewrite();
        CHECK.due("another trap", () -> x.run(true, 9), 1);
        CHECK.due("its address", () -> x.register(4), 102);
        CHECK.due("the byte", () -> x.code(95, true), 2);
    }

    private static void sameBehaviour() {
        // Prints the cell's value times 3 through a CALL, by way of a SWITCH.
        BlockCounter x = Check.with(52, 0, 72, 30, 3, 70, 20, 0);
        Check.put(x, 8, 4, 68, 250, 8, 68, 247);
        Check.put(x, 20, 49, 0, 20, 20, 20, 13, 3);
        Check.put(x, 30, 5, 8, 11);
        x.declare(30, 3);
        x.analyse();
        x.rewrite();
        for (int value = -5; value < 6; value++) {
            x.data(0, value);
            int changed = value + new int[] {0, 1, -1}[Math.floorMod(value, 3)];
            for (int round = 0; round < 2; round++) {
                boolean rewritten = round == 1;
                CHECK.due("outcome", () -> x.run(rewritten, 3000), 1);
                CHECK.due("register 0", () -> x.register(0), changed);
                CHECK.due("printed", () -> x.output(0), 3L * changed);
                CHECK.due("the stack", () -> x.register(5), 0);
                int ways = (int) (x.counter(3) + x.counter(4));
                CHECK.due("one of two ways", () -> ways, Math.floorMod(value, 3) == 0 ? 0 : 1);
                CHECK.due("the routine", () -> x.counter(5), 1);
            }
        }
    }
}
