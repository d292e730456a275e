/** Terms, rewriting: each sentence that names a boundary has a test of its own. */
public final class RewritingEdgesTest {
    private static final Check CHECK = new Check("RewritingEdgesTest");
    private static final int SECTION = 160;

    public static void main(String[] args) {
        CHECK.sentence("the new code of each one lies behind that of the one before, from 96 on",
                RewritingEdgesTest::oneBehindTheOther);
        CHECK.sentence("76 and the block's number", RewritingEdgesTest::numbers);
        CHECK.sentence("as many as are needed for two bytes, if it has two", RewritingEdgesTest::firsts);
        CHECK.sentence("else its only one", RewritingEdgesTest::onlyOne);
        CHECK.sentence("a branch 60 or 64 as: itself with N = 2, then 69 .., then 69 ..",
                RewritingEdgesTest::conditions);
        CHECK.sentence("68 as 69 and where it goes", RewritingEdgesTest::branches);
        CHECK.sentence("CALL as 77, N, and the address behind it", RewritingEdgesTest::calls);
        CHECK.sentence("others as they are", RewritingEdgesTest::others);
        CHECK.sentence("if the last one is none that ends a block, 69 and the address behind it",
                RewritingEdgesTest::goesOnBehind);
        CHECK.sentence("The block's first two bytes become 69 and the address of its new code",
                RewritingEdgesTest::twoBytesBecome);
        CHECK.sentence("if it has one byte only, that becomes 2, and the traps say that address",
                RewritingEdgesTest::oneByteBecomes);
        CHECK.sentence("The original bytes are kept besides", RewritingEdgesTest::originalIsKept);
        CHECK.sentence("If the section is too small the program cannot be rewritten.", RewritingEdgesTest::tooSmall);
        CHECK.sentence("(all of the section is used)", RewritingEdgesTest::justLargeEnough);
        CHECK.end();
    }

    private static BlockCounter rewritten(BlockCounter x) {
        x.analyse();
        x.rewrite();
        return x;
    }

    private static BlockCounter table(int base, int count, int... bytes) {
        BlockCounter x = Check.with(bytes);
        x.declare(base, count);
        return x;
    }

    /** The new code of block 0, behind 76 and 0, and that nothing else of it comes behind. */
    private static void dueNew(String name, BlockCounter x, int... want) {
        rewritten(x);
        CHECK.dueCode(name, x, 96, 76, 0);
        CHECK.dueCode(name, x, 98, want);
        boolean more = !Check.told(() -> x.block(1, 0)).equals("IndexOutOfBoundsException");
        CHECK.dueCode(name + ": behind it", x, 98 + want.length, more ? 76 : 0, more ? 1 : 0);
    }

    private static void oneBehindTheOther() {
        BlockCounter x = rewritten(Check.with(69, 95));
        CHECK.dueCode("two blocks", x, 94, 0, 2, 76, 0, 69, 95, 76, 1, 0, 0, 0, 0);
        CHECK.due("used", x::rewrite, 7);
        // By their heads, not by how they are come to.
        BlockCounter back = rewritten(Check.with(69, 4, 71, 0, 69, 3));
        CHECK.dueCode("three blocks", back, 96, 76, 0, 69, 4, 76, 1, 0, 76, 2, 69, 3, 0);
        CHECK.dueCode("their first bytes", back, 0, 69, 96, 71, 2, 69, 103, 0);
    }

    private static void numbers() {
        BlockCounter x = branches(19, 0);
        Check.put(x, 38, 0);
        rewritten(x);
        for (int k = 0; k < 20; k++) {
            CHECK.dueCode("block " + k, x, 96 + 8 * k, 76, k);
        }
    }

    private static void firsts() {
        dueNew("1 and 1 of 3", Check.with(4, 5, 6, 0), 4, 5, 69, 2);
        dueNew("1 and 2 of 4", Check.with(4, 48, 7, 0), 4, 48, 7, 69, 3);
        dueNew("1 and 3", table(5, 1, 4, 72, 5, 1, 0, 4), 4, 72, 5, 1);
        dueNew("2 of 3", Check.with(48, 7, 0), 48, 7, 69, 2);
        dueNew("2 of 2", Check.with(69, 0), 69, 0);
        dueNew("3 of 3", table(5, 1, 72, 5, 1, 0, 0, 3), 72, 5, 1);
        dueNew("1 and 1, that's all", Check.with(4, 5, 60, 254, 0), 4, 5, 69, 2);
        dueNew("1 and 2, that's all", Check.with(4, 48, 9, 60, 254, 0), 4, 48, 9, 69, 3);
    }

    private static void onlyOne() {
        dueNew("HALT", Check.with(0, 4), 0);
        dueNew("RETURN", Check.with(3, 4), 3);
        int[] ordinary = {1, 4, 11, 15, 16, 47};
        for (int first : ordinary) {
            dueNew("one byte " + first, Check.with(first, 60, 254, 0), first, 69, 1);
        }
    }

    private static void conditions() {
        for (int first = 60; first < 68; first++) {
            dueNew("to 0", Check.with(first, 254, 0), first, 2, 69, 2, 69, 0);
            dueNew("to 95", Check.with(first, 93, 0), first, 2, 69, 2, 69, 95);
            dueNew("as the second one", Check.with(1, first, 253, 0), 1, first, 2, 69, 3, 69, 0);
            sameWay(first);
        }
    }

    /** Whether the condition holds or not, the rewritten program goes the same way. */
    private static void sameWay(int first) {
        for (int value = -1; value <= 1; value++) {
            BlockCounter x = Check.with(52 + first % 4, 0, 1, 69, 5, first, 2, 13, 0, 12, 0);
            x.data(0, value);
            rewritten(x);
            CHECK.due("the original halts", () -> x.run(false, 99), 1);
            boolean taken = first < 64 ? value == 0 : value < 0;
            CHECK.due("it goes", () -> x.register(4), taken ? 10 : 8);
            long before = x.counter(2) * 10 + x.counter(3);
            CHECK.due("the rewritten one halts", () -> x.run(true, 99), 1);
            CHECK.due("the same way", () -> x.counter(2) * 10 + x.counter(3), before);
        }
    }

    private static void branches() {
        dueNew("to 0", Check.with(68, 254), 69, 0);
        dueNew("to 95", Check.with(68, 93), 69, 95);
        dueNew("to the next one", Check.with(68, 0, 0), 69, 2);
        dueNew("as the second one", Check.with(1, 68, 253), 1, 69, 0);
        dueNew("69 to 95", Check.with(69, 95), 69, 95);
    }

    private static void calls() {
        dueNew("to 0", Check.with(70, 0, 0), 77, 0, 2);
        dueNew("to 95", Check.with(70, 95, 0), 77, 95, 2);
        dueNew("as the second one", Check.with(1, 70, 0, 0), 1, 77, 0, 3);
        BlockCounter last = rewritten(lastCall());
        CHECK.dueCode("behind it is 95", last, 103, 76, 2, 77, 3, 95, 76, 3, 0);
    }

    /** A CALL at 93; behind it there is one byte more. */
    private static BlockCounter lastCall() {
        BlockCounter x = Check.with(69, 93, 0, 3);
        Check.put(x, 93, 70, 3);
        return x;
    }

    private static void others() {
        for (int first = 1; first < 60; first++) {
            if (first >= 4 && first < 48) {
                dueNew("one byte", Check.with(first, 1, 0), first, 1, 69, 2);
            } else if (first >= 48) {
                dueNew("two bytes", Check.with(first, 255, 0), first, 255, 69, 2);
            }
        }
        for (int r = 0; r < 4; r++) {
            dueNew("SWITCH", table(3, 2, 72 + r, 3, 2, 5, 95), 72 + r, 3, 2);
        }
        dueNew("HALT", Check.with(1, 0), 1, 0);
        dueNew("RETURN", Check.with(1, 3), 1, 3);
    }

    private static void goesOnBehind() {
        BlockCounter last = Check.with(69, 93);
        last.poke(93, 4);
        last.poke(94, 4);
        rewritten(last);
        CHECK.dueCode("to 95", last, 100, 76, 1, 4, 4, 69, 95, 0);
        // The second of the two ends the block, or it does not.
        dueNew("4, HALT", Check.with(4, 0), 4, 0);
        dueNew("4, 4", Check.with(4, 4, 0), 4, 4, 69, 2);
        dueNew("59", Check.with(59, 0, 0), 59, 0, 69, 2);
        dueNew("60", Check.with(60, 0, 0), 60, 2, 69, 2, 69, 2);
        dueNew("75", table(3, 1, 75, 3, 1, 0), 75, 3, 1);
    }

    private static void twoBytesBecome() {
        BlockCounter x = rewritten(Check.with(48, 1, 0, 71));
        CHECK.dueCode("two of three", x, 0, 69, 96, 0, 71);
        BlockCounter three = rewritten(Check.with(4, 48, 1, 0));
        CHECK.dueCode("what was moved besides stays", three, 0, 69, 96, 1, 0);
        BlockCounter last = Check.with(69, 94);
        Check.put(last, 94, 69, 0);
        rewritten(last);
        CHECK.dueCode("the last two bytes", last, 94, 69, 100, 76, 0, 69, 94, 76, 1, 69, 0, 0);
    }

    private static void oneByteBecomes() {
        BlockCounter x = rewritten(Check.with(5, 61, 254, 0));
        CHECK.dueCode("three blocks", x, 0, 2, 69, 101, 2, 0);
        // TRAP, 76, 5 and 69; then 69, 76, 61 and 69; then TRAP, 76 and HALT.
        CHECK.due("it halts", () -> x.run(true, 99), 1);
        CHECK.due("its steps", x::steps, 11);
        CHECK.due("the last trap's new code", () -> x.register(4), 111);
        CHECK.dueCounters(x, 1, 1, 1, 0);
        BlockCounter last = rewritten(Check.with(69, 95));
        CHECK.dueCode("the last byte", last, 95, 2);
        CHECK.due("its trap", () -> last.run(true, 99), 1);
        CHECK.due("its new code", () -> last.register(4), 102);
    }

    private static void originalIsKept() {
        BlockCounter x = Check.with(5, 61, 254, 0);
        rewritten(x);
        int[] bytes = {5, 61, 254, 0, 0};
        for (int round = 0; round < 2; round++) {
            for (int i = 0; i < bytes.length; i++) {
                int address = i;
                CHECK.due("byte " + i, () -> x.code(address, false), bytes[i]);
            }
            CHECK.due("the section of the original", () -> x.code(96, false), 0);
            CHECK.due("the original halts", () -> x.run(false, 99), 1);
            CHECK.due("its own HALT", () -> x.register(4), 3);
            x.rewrite();
        }
    }

    /** Blocks 60, 0, which take 8 bytes of the section each, and blocks 4, 60, 0, which take 9. */
    private static BlockCounter branches(int eights, int nines) {
        BlockCounter x = new BlockCounter();
        for (int i = 0; i < eights; i++) {
            Check.put(x, 2 * i, 60, 0);
        }
        for (int i = 0; i < nines; i++) {
            Check.put(x, 2 * eights + 3 * i, 4, 60, 0);
        }
        return x;
    }

    /** A program whose new code takes so many bytes, the last of its blocks among them. */
    private static BlockCounter taking(int total, int ofLast, int... last) {
        int nines = (total - ofLast) % 8;
        int eights = (total - ofLast - 9 * nines) / 8;
        BlockCounter x = branches(eights, nines);
        Check.put(x, 2 * eights + 3 * nines, last);
        return x;
    }

    private static void dueSize(int total, BlockCounter x) {
        int blocks = Integer.parseInt(Check.told(x::analyse));
        if (total <= SECTION) {
            CHECK.due("a section of " + total, x::rewrite, total);
            CHECK.due("its first byte", () -> x.code(96, true), 76);
            return;
        }
        String before = Check.seen(x);
        CHECK.dueThrow("a section of " + total, UnsupportedOperationException.class, x::rewrite);
        CHECK.same("it changes nothing, which", Check.seen(x), before);
        CHECK.dueThrow("no rewritten program", IllegalStateException.class, () -> x.code(0, true));
        CHECK.dueThrow("none to run", IllegalStateException.class, () -> x.run(true, 9));
        CHECK.due("the last block is there still", () -> x.block(blocks - 1, 0) > 0 ? 1 : 0, 1);
        CHECK.dueThrow("once more", UnsupportedOperationException.class, x::rewrite);
    }

    /** The end of the section comes in each place of the last blocks' new code. */
    private static void tooSmall() {
        for (int total = SECTION - 20; total < SECTION + 30; total++) {
            dueSize(total, taking(total, 3, 0));
            dueSize(total, taking(total, 3, 3));
            dueSize(total, taking(total, 4, 4, 0));
            dueSize(total, taking(total, 4, 69, 0));
            dueSize(total, taking(total, 5, 4, 68, 253));
            dueSize(total, taking(total, 6, 48, 1, 0));
            dueSize(total, taking(total, 7, 4, 48, 1, 0));
        }
    }

    private static void justLargeEnough() {
        BlockCounter x = rewritten(taking(SECTION, 3, 0));
        CHECK.dueCode("the end of the section", x, 253, 76, 19, 0);
        CHECK.due("it halts", () -> x.run(true, 3000), 1);
        CHECK.due("with its last byte", () -> x.register(4), 255);
        CHECK.due("the last block", () -> x.counter(19), 1);
        BlockCounter jump = rewritten(taking(SECTION, 6, 48, 77, 0));
        CHECK.dueCode("the end of the section", jump, 250, 76, 19, 48, 77, 69, 42);
        CHECK.due("it halts in the code", () -> jump.run(true, 3000), 1);
        CHECK.due("behind what was moved", () -> jump.register(4), 42);
        CHECK.due("what was moved was done", () -> jump.register(0), 77);
    }
}
