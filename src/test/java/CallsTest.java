/** What the calls keep, forget and refuse: promises 1 to 4, 8, 9 and 11 to 15. */
public final class CallsTest {
    private static final Check CHECK = new Check("CallsTest");
    private static final int[] EDGES = {Integer.MIN_VALUE, -1000, -1, 96, 97, 256, Integer.MAX_VALUE};

    public static void main(String[] args) {
        newObject();
        poke();
        pokeForgets();
        declare();
        declareForgets();
        data();
        analyseForgetsRewriting();
        statesOfRewrite();
        code();
        runArguments();
        latestRunStays();
        askedOutside();
        CHECK.end();
    }

    /** Halts at once after it has printed and stored. */
    private static BlockCounter small() {
        return Check.with(48, 9, 12, 56, 3, 0);
    }

    private static void newObject() {
        BlockCounter x = new BlockCounter();
        for (int i = 0; i < 256; i++) {
            int address = i;
            CHECK.due("new: code " + i, () -> x.code(address, false), 0);
        }
        newRunState(x);
        CHECK.due("new: blockAt", () -> x.blockAt(0), -1);
        CHECK.dueThrow("new: block", IndexOutOfBoundsException.class, () -> x.block(0, 0));
        CHECK.dueThrow("new: rewrite", IllegalStateException.class, x::rewrite);
        CHECK.dueThrow("new: code of no rewritten program", IllegalStateException.class, () -> x.code(0, true));
        CHECK.due("new: run", () -> x.run(false, 10), 1);
        CHECK.due("new: steps of HALT", x::steps, 1);
        CHECK.due("new: analyse", x::analyse, 1);
        CHECK.due("new: first table", () -> x.declare(0, 1), 1);
    }

    private static void newRunState(BlockCounter x) {
        CHECK.due("new: steps", x::steps, 0);
        for (int i = 0; i < 7; i++) {
            int k = i;
            CHECK.due("new: register " + i, () -> x.register(k), 0);
        }
        for (int i = 0; i < 16; i++) {
            int k = i;
            CHECK.due("new: cell " + i, () -> x.cell(k), 0);
        }
        for (int i = 0; i < 64; i++) {
            int k = i;
            CHECK.due("new: counter " + i, () -> x.counter(k), 0);
        }
        CHECK.dueThrow("new: output", IndexOutOfBoundsException.class, () -> x.output(0));
    }

    private static void poke() {
        BlockCounter x = new BlockCounter();
        x.poke(0, 257);
        x.poke(95, -1);
        x.poke(40, 0x12345680);
        CHECK.due("poke takes the lowest 8 bits", () -> x.code(0, false), 1);
        CHECK.due("poke of -1", () -> x.code(95, false), 255);
        CHECK.due("poke of a large value", () -> x.code(40, false), 0x80);
        for (int a : EDGES) {
            CHECK.dueThrow("poke " + a, IndexOutOfBoundsException.class, Check.act(() -> x.poke(a, 1)));
        }
        CHECK.due("the section stays 0", () -> x.code(96, false), 0);
    }

    private static void pokeForgets() {
        BlockCounter x = small();
        x.analyse();
        x.rewrite();
        CHECK.dueThrow("wrong poke", IndexOutOfBoundsException.class, Check.act(() -> x.poke(96, 1)));
        CHECK.due("wrong poke keeps analysis", () -> x.blockAt(0), 0);
        CHECK.due("wrong poke keeps rewriting", () -> x.code(96, true), 76);
        x.poke(0, 48);
        CHECK.due("poke of what is there forgets analysis", () -> x.blockAt(0), -1);
        CHECK.dueThrow("and block", IndexOutOfBoundsException.class, () -> x.block(0, 0));
        CHECK.dueThrow("and code", IllegalStateException.class, () -> x.code(0, true));
        CHECK.dueThrow("and run", IllegalStateException.class, () -> x.run(true, 1));
        CHECK.dueThrow("and rewrite", IllegalStateException.class, x::rewrite);
    }

    private static void declare() {
        BlockCounter x = new BlockCounter();
        int[][] wrong = {{0, 0}, {0, -1}, {0, 97}, {1, 96}, {95, 2}, {96, 1}, {-1, 1}, {-1, 5},
            {Integer.MAX_VALUE, 1}, {Integer.MAX_VALUE, Integer.MAX_VALUE}, {1, Integer.MAX_VALUE},
            {Integer.MIN_VALUE, 96}, {5, Integer.MIN_VALUE}, {Integer.MIN_VALUE, Integer.MIN_VALUE}};
        wrongTables(x, wrong);
        CHECK.due("a table of the whole code", () -> x.declare(0, 96), 1);
        CHECK.due("a table at the end", () -> x.declare(95, 1), 2);
        CHECK.due("the same one again", () -> x.declare(95, 1), 3);
        CHECK.due("a fourth", () -> x.declare(10, 3), 4);
        CHECK.dueThrow("a fifth", IllegalStateException.class, () -> x.declare(10, 3));
        wrongTables(x, wrong);
    }

    private static void wrongTables(BlockCounter x, int[][] wrong) {
        for (int[] w : wrong) {
            CHECK.dueThrow("declare " + w[0] + ", " + w[1], IllegalArgumentException.class,
                    () -> x.declare(w[0], w[1]));
        }
    }

    private static void declareForgets() {
        BlockCounter x = small();
        x.analyse();
        x.rewrite();
        CHECK.dueThrow("wrong declare", IllegalArgumentException.class, () -> x.declare(0, 0));
        CHECK.due("wrong declare keeps analysis", () -> x.blockAt(0), 0);
        CHECK.due("wrong declare keeps rewriting", () -> x.code(96, true), 76);
        for (int i = 1; i <= 4; i++) {
            int number = i;
            CHECK.due("declare", () -> x.declare(50, 2), number);
            CHECK.due("declare forgets analysis", () -> x.blockAt(0), -1);
            CHECK.dueThrow("declare forgets rewriting", IllegalStateException.class, () -> x.code(0, true));
            x.analyse();
            x.rewrite();
        }
        CHECK.dueThrow("a fifth table", IllegalStateException.class, () -> x.declare(50, 2));
        CHECK.due("a refused table keeps analysis", () -> x.blockAt(0), 0);
        CHECK.due("a refused table keeps rewriting", () -> x.code(96, true), 76);
    }

    private static void data() {
        BlockCounter x = Check.with(52, 3, 4, 56, 3, 0);
        x.analyse();
        x.rewrite();
        x.data(3, 41);
        x.data(0, Integer.MIN_VALUE);
        x.data(15, Integer.MAX_VALUE);
        for (int a : new int[] {Integer.MIN_VALUE, -1, 16, 17, Integer.MAX_VALUE}) {
            CHECK.dueThrow("data " + a, IndexOutOfBoundsException.class, Check.act(() -> x.data(a, 1)));
            CHECK.dueThrow("cell " + a, IndexOutOfBoundsException.class, () -> x.cell(a));
        }
        CHECK.due("before any run a cell is 0", () -> x.cell(3), 0);
        CHECK.due("data keeps analysis", () -> x.blockAt(0), 0);
        for (int round = 0; round < 2; round++) {
            boolean rewritten = round == 1;
            CHECK.due("run with data", () -> x.run(rewritten, 50), 1);
            CHECK.due("each run begins with it", () -> x.cell(3), 42);
            CHECK.due("cell 0", () -> x.cell(0), Integer.MIN_VALUE);
            CHECK.due("cell 15", () -> x.cell(15), Integer.MAX_VALUE);
        }
        x.data(3, 7);
        CHECK.due("data keeps what the latest run left", () -> x.cell(3), 42);
        CHECK.due("and its steps", x::steps, 7);
        CHECK.due("a cut run", () -> x.run(false, 0), 0);
        CHECK.due("begins with the data too", () -> x.cell(3), 7);
    }

    private static void analyseForgetsRewriting() {
        BlockCounter x = small();
        x.analyse();
        CHECK.due("rewrite", x::rewrite, 6);
        CHECK.due("analyse again", x::analyse, 1);
        CHECK.dueThrow("a rewritten program is gone", IllegalStateException.class, () -> x.code(0, true));
        CHECK.dueThrow("and can't be run", IllegalStateException.class, () -> x.run(true, 5));
        CHECK.due("the analysis stands", () -> x.blockAt(0), 0);
        x.poke(0, 71);
        CHECK.dueThrow("refused", UnsupportedOperationException.class, x::analyse);
        CHECK.due("no analysis then", () -> x.blockAt(0), -1);
        CHECK.dueThrow("refused again", UnsupportedOperationException.class, x::analyse);
        x.poke(0, 48);
        CHECK.due("accepted again", x::analyse, 1);
    }

    private static void statesOfRewrite() {
        BlockCounter x = small();
        CHECK.dueThrow("rewrite without analysis", IllegalStateException.class, x::rewrite);
        x.analyse();
        CHECK.due("rewrite", x::rewrite, 6);
        CHECK.due("rewrite anew takes the original bytes", x::rewrite, 6);
        CHECK.due("new code", () -> x.code(98, true), 48);
        CHECK.due("the original is kept", () -> x.code(0, false), 48);
        CHECK.due("the second one", () -> x.code(0, true), 69);
        CHECK.due("analysis stays", () -> x.block(0, 2), 4);
    }

    private static void code() {
        BlockCounter x = small();
        for (int a : new int[] {Integer.MIN_VALUE, -1, 256, 257, Integer.MAX_VALUE}) {
            CHECK.dueThrow("code " + a, IndexOutOfBoundsException.class, () -> x.code(a, false));
            CHECK.dueThrow("code " + a + " of none", IndexOutOfBoundsException.class, () -> x.code(a, true));
        }
        CHECK.dueThrow("no rewritten program", IllegalStateException.class, () -> x.code(255, true));
        CHECK.due("the original's section is 0", () -> x.code(255, false), 0);
        x.analyse();
        x.rewrite();
        CHECK.due("the rest of the section is 0", () -> x.code(255, true), 0);
        CHECK.due("the original's section stays 0", () -> x.code(96, false), 0);
        CHECK.dueThrow("code 256", IndexOutOfBoundsException.class, () -> x.code(256, true));
    }

    private static void runArguments() {
        BlockCounter x = small();
        for (int s : new int[] {Integer.MIN_VALUE, -1, 3001, Integer.MAX_VALUE}) {
            CHECK.dueThrow("run for " + s, IllegalArgumentException.class, () -> x.run(false, s));
            CHECK.dueThrow("run of none for " + s, IllegalArgumentException.class, () -> x.run(true, s));
        }
        CHECK.dueThrow("run of none", IllegalStateException.class, () -> x.run(true, 0));
        CHECK.due("0 steps", () -> x.run(false, 0), 0);
        CHECK.due("3000 steps", () -> x.run(false, 3000), 1);
    }

    private static void latestRunStays() {
        BlockCounter x = small();
        x.analyse();
        x.run(false, 100);
        x.poke(1, 5);
        x.declare(50, 1);
        x.data(3, 1);
        x.analyse();
        x.rewrite();
        CHECK.dueThrow("a wrong run", IllegalArgumentException.class, () -> x.run(false, 3001));
        x.poke(1, 6);
        CHECK.dueThrow("a run of none", IllegalStateException.class, () -> x.run(true, 1));
        CHECK.due("steps stay", x::steps, 4);
        CHECK.due("registers stay", () -> x.register(0), 9);
        CHECK.due("the PC stays", () -> x.register(4), 5);
        CHECK.due("cells stay", () -> x.cell(3), 9);
        CHECK.due("the output stays", () -> x.output(0), 9);
        CHECK.due("counters stay", () -> x.counter(0), 1);
        x.run(false, 1);
        CHECK.due("the next run begins anew: steps", x::steps, 1);
        CHECK.due("its register", () -> x.register(0), 6);
        CHECK.due("its cell", () -> x.cell(3), 1);
        CHECK.due("its output", () -> x.register(6), 0);
        CHECK.dueThrow("no old number", IndexOutOfBoundsException.class, () -> x.output(0));
        CHECK.due("no counter without analysis", () -> x.counter(0), 0);
    }

    private static void askedOutside() {
        BlockCounter x = small();
        x.run(false, 100);
        for (int i : new int[] {Integer.MIN_VALUE, -1, 7, 8, Integer.MAX_VALUE}) {
            CHECK.dueThrow("register " + i, IndexOutOfBoundsException.class, () -> x.register(i));
        }
        for (int i : new int[] {Integer.MIN_VALUE, -1, 1, 39, 40, Integer.MAX_VALUE}) {
            CHECK.dueThrow("output " + i, IndexOutOfBoundsException.class, () -> x.output(i));
        }
        for (int i : new int[] {Integer.MIN_VALUE, -1, 64, Integer.MAX_VALUE}) {
            CHECK.dueThrow("counter " + i, IndexOutOfBoundsException.class, () -> x.counter(i));
        }
        CHECK.due("counter 63", () -> x.counter(63), 0);
    }
}
