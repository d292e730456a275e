import java.lang.management.ManagementFactory;
import java.util.Random;

/** "An object is used for at most 512 calls": all of them are answered as is due, and take no room. */
public final class LifeTest {
    private static final Check CHECK = new Check("LifeTest");
    private static final int CALLS = 512;
    private static final int OBJECTS = 2000;
    private static final int[] USUAL = {0, 1, 3, 4, 5, 8, 9, 12, 13, 17, 36, 48, 49, 52, 56, 60, 61, 64, 68, 69, 70,
        72, 2, 76, 77, 71};

    private static int accepted = 0;
    private static int refused = 0;
    private static int rewritings = 0;

    public static void main(String[] args) {
        // First, as a class that has run for long is compiled so that some objects are not made at all.
        CHECK.sentence("an object: its calls make no others", LifeTest::room);
        CHECK.sentence("at most 512 calls: mixed ones", LifeTest::mixed);
        CHECK.sentence("at most 512 calls: all of them runs", LifeTest::runs);
        CHECK.sentence("at most 512 calls: all of them analyses", LifeTest::analyses);
        CHECK.sentence("at most 512 calls: all of them rewritings", LifeTest::rewritings);
        CHECK.sentence("at most 512 calls: all of them refused", LifeTest::refusals);
        CHECK.sentence("an object: two do not touch one another", LifeTest::twoObjects);
        CHECK.end();
    }

    private static void mixed() {
        for (int seed = 0; seed < OBJECTS; seed++) {
            Random random = new Random(seed);
            BlockCounter x = new BlockCounter();
            PlainModel model = new PlainModel();
            int size = 3 + random.nextInt(12);
            for (int i = 1; i <= CALLS; i++) {
                mixedCall("seed " + seed + ", call " + i + ": ", random, x, model, size);
            }
        }
        // A generator that never comes to one of these would prove nothing.
        CHECK.same("all kinds of programs", Boolean.toString(
                accepted > 1000 && refused > 1000 && rewritings > 1000), "true");
    }

    private static void mixedCall(String name, Random random, BlockCounter x, PlainModel model, int size) {
        int choice = random.nextInt(20);
        if (choice < 4) {
            change(name, random, x, model, size);
        } else if (choice < 7) {
            String told = both(name + "analyse", x::analyse, model::analyse);
            accepted += told.length() < 4 ? 1 : 0;
            refused += told.length() < 4 ? 0 : 1;
        } else if (choice < 9) {
            rewritings += both(name + "rewrite", x::rewrite, model::rewrite).length() < 4 ? 1 : 0;
        } else if (choice < 12) {
            boolean second = random.nextBoolean();
            int limit = random.nextInt(10) == 0 ? random.nextInt(3003) - 1 : random.nextInt(60);
            both(name + "run " + second + " " + limit, () -> x.run(second, limit), () -> model.run(second, limit));
        } else if (choice < 16) {
            askOfProgram(name, random, x, model, size);
        } else {
            askOfRun(name, random, x, model);
        }
    }

    private static void change(String name, Random random, BlockCounter x, PlainModel model, int size) {
        int choice = random.nextInt(12);
        if (choice == 0) {
            int base = random.nextInt(size + 1);
            int count = random.nextInt(4);
            both(name + "declare", () -> x.declare(base, count), () -> model.declare(base, count));
        } else if (choice < 4) {
            int cell = random.nextInt(17);
            int value = random.nextInt(7) - 3;
            both(name + "data", Check.act(() -> x.data(cell, value)), Check.act(() -> model.data(cell, value)));
        } else {
            int address = random.nextInt(40) == 0 ? 96 : random.nextInt(size);
            int value = random.nextInt(3) == 0 ? random.nextInt(2 * size) - size
                    : USUAL[random.nextInt(USUAL.length)];
            both(name + "poke", Check.act(() -> x.poke(address, value)),
                    Check.act(() -> model.poke(address, value)));
        }
    }

    private static void askOfProgram(String name, Random random, BlockCounter x, PlainModel model, int size) {
        boolean second = random.nextInt(3) > 0;
        int address = random.nextInt(size + 2) + (second && random.nextBoolean() ? 96 : 0) - 1;
        int k = random.nextInt(6) - 1;
        int what = random.nextInt(4);
        switch (random.nextInt(3)) {
            case 0:
                both(name + "block", () -> x.block(k, what), () -> model.block(k, what));
                break;
            case 1:
                both(name + "blockAt", () -> x.blockAt(address), () -> model.blockAt(address));
                break;
            default:
                both(name + "code", () -> x.code(address, second), () -> model.code(address, second));
                break;
        }
    }

    private static void askOfRun(String name, Random random, BlockCounter x, PlainModel model) {
        int i = random.nextInt(9) - 1;
        switch (random.nextInt(5)) {
            case 0:
                both(name + "steps", x::steps, model::steps);
                break;
            case 1:
                both(name + "register " + i, () -> x.register(i), () -> model.register(i));
                break;
            case 2:
                both(name + "cell " + i, () -> x.cell(i), () -> model.cell(i));
                break;
            case 3:
                both(name + "output " + i, () -> x.output(i), () -> model.output(i));
                break;
            default:
                both(name + "counter " + i, () -> x.counter(i), () -> model.counter(i));
                break;
        }
    }

    private static String both(String what, Check.Call ofReal, Check.Call ofModel) {
        String want = Check.told(ofModel);
        CHECK.same(what, Check.told(ofReal), want);
        return want;
    }

    private static void runs() {
        BlockCounter x = Check.with(48, 9, 8, 4, 68, 252);
        x.analyse();
        x.rewrite();
        for (int i = 9; i <= CALLS - 2; i++) {
            boolean second = i % 2 == 0;
            CHECK.due("run, call " + i, () -> x.run(second, 3000), 0);
        }
        CHECK.due("counter 1 of the last run", () -> x.counter(1), 500);
        CHECK.due("its register 0", () -> x.register(0), 9);
    }

    private static void analyses() {
        BlockCounter x = Check.with(60, 2, 68, 0, 0);
        for (int i = 6; i <= CALLS; i++) {
            CHECK.due("analyse, call " + i, x::analyse, 3);
        }
    }

    private static void rewritings() {
        BlockCounter x = Check.with(60, 2, 68, 0, 0);
        x.analyse();
        for (int i = 7; i <= CALLS; i++) {
            CHECK.due("rewrite, call " + i, x::rewrite, 15);
        }
    }

    private static void refusals() {
        BlockCounter x = Check.with(2);
        for (int i = 2; i < CALLS; i++) {
            CHECK.dueThrow("analyse, call " + i, UnsupportedOperationException.class, x::analyse);
        }
        CHECK.dueThrow("rewrite, the last call", IllegalStateException.class, x::rewrite);
    }

    private static void twoObjects() {
        BlockCounter x = Check.with(4, 12, 0);
        BlockCounter y = new BlockCounter();
        x.data(1, 7);
        x.declare(0, 1);
        x.analyse();
        x.rewrite();
        x.run(true, 9);
        String left = Check.left(x);
        CHECK.due("the other's code", () -> y.code(0, false), 0);
        CHECK.due("the other's blocks", () -> y.blockAt(0), -1);
        CHECK.dueThrow("the other's rewriting", IllegalStateException.class, () -> y.code(0, true));
        CHECK.due("the other's tables", () -> y.declare(0, 1), 1);
        CHECK.due("the other's steps", y::steps, 0);
        CHECK.due("the other's run", () -> y.run(false, 9), 1);
        CHECK.due("the other's cell", () -> y.cell(1), 0);
        CHECK.due("the other's register", () -> y.register(0), 0);
        CHECK.same("what the first one's run left", Check.left(x), left);
        CHECK.due("the first one's rewriting", () -> x.code(0, true), 69);
    }

    /** One room holds all that the calls of a run make. */
    private static void room() {
        useAll(looping(), 2); // what a first use makes (classes, say) is not the calls' own
        BlockCounter x = looping();
        long before = made();
        useAll(x, 31);
        long after = made();
        CHECK.same("bytes that were made in 496 calls: " + (after - before) + ", less than 8 for each",
                Boolean.toString(after - before < 8 * 496), "true");
    }

    /** Has something in its output, and runs as long as it may. */
    private static BlockCounter looping() {
        return Check.with(48, 9, 12, 8, 4, 68, 252);
    }

    private static long made() {
        com.sun.management.ThreadMXBean bean =
                (com.sun.management.ThreadMXBean) ManagementFactory.getThreadMXBean();
        return bean.getThreadAllocatedBytes(Thread.currentThread().getId());
    }

    /** Sixteen calls at a time, all of them such as do not throw. */
    private static void useAll(BlockCounter x, int times) {
        for (int i = 0; i < times; i++) {
            x.poke(0, 48);
            x.data(0, i);
            x.analyse();
            x.block(0, 0);
            x.blockAt(0);
            x.rewrite();
            x.code(96, true);
            x.run(true, 3000);
            x.steps();
            x.register(4);
            x.cell(0);
            x.output(0);
            x.counter(0);
            x.run(false, 3000);
            x.rewrite();
            x.analyse();
        }
    }
}
