import java.util.ArrayList;
import java.util.List;
import java.util.Random;

/**
 * Long runs of calls, from fixed seeds, on the class and on the plain model: promises 1 to 15. An
 * object gets more calls here than the document promises; the class has no limit of its own.
 */
public final class ModelTest {
    private static final int OBJECTS = 3000;
    private static final int ROUNDS = 3;
    private static final int[] ODD = {Integer.MIN_VALUE, Integer.MAX_VALUE, -1, 0, 1, 2, 3, 7, 15, 16, 39, 40,
        63, 64, 94, 95, 96, 97, 255, 256, 3000, 3001};
    private static final Check CHECK = new Check("ModelTest");

    private final Random random;
    private final BlockCounter real = new BlockCounter();
    private final PlainModel model = new PlainModel();
    private final List<Integer> starts = new ArrayList<>();
    private final String name;

    private static int accepted = 0;
    private static int refused = 0;
    private static int rewritings = 0;
    private static int tooLarge = 0;
    private static int ended = 0;

    private ModelTest(int seed) {
        random = new Random(seed);
        name = "seed " + seed + ": ";
    }

    public static void main(String[] args) {
        for (int seed = 0; seed < OBJECTS; seed++) {
            new ModelTest(seed).go();
        }
        System.out.println("ModelTest: " + accepted + " programs accepted, " + refused + " refused, "
                + rewritings + " rewritten, " + tooLarge + " too large, " + ended + " pairs of runs ended");
        // A generator that never comes to one of these would prove nothing.
        CHECK.same("all kinds of programs", Boolean.toString(
                accepted > 1000 && refused > 500 && rewritings > 1000 && tooLarge > 50 && ended > 1000), "true");
        CHECK.end();
    }

    private void go() {
        for (int round = 0; round < ROUNDS; round++) {
            makeProgram();
            if (random.nextInt(4) == 0) {
                inspectRun(random.nextBoolean());
            }
            oddCalls(5);
            boolean good = tellAnalyse();
            inspectBlocks();
            oddCalls(5);
            boolean second = tellRewrite();
            inspectCode();
            for (int i = 0; i < 3; i++) {
                int cell = random.nextInt(16);
                int value = random.nextInt(9) - 4;
                both("data", Check.act(() -> real.data(cell, value)), Check.act(() -> model.data(cell, value)));
                inspectRun(false);
                inspectRun(true);
                if (good && second) {
                    sameBehaviour();
                }
            }
            oddCalls(10);
        }
    }

    private String both(String what, Check.Call ofReal, Check.Call ofModel) {
        String want = Check.told(ofModel);
        CHECK.same(name + what, Check.told(ofReal), want);
        return want;
    }

    private void poke(int address, int value) {
        both("poke", Check.act(() -> real.poke(address, value)), Check.act(() -> model.poke(address, value)));
    }

    private void declare(int base, int count) {
        both("declare " + base + ", " + count, () -> real.declare(base, count), () -> model.declare(base, count));
    }

    private boolean tellAnalyse() {
        boolean good = !both("analyse", real::analyse, model::analyse).startsWith("U");
        accepted += good ? 1 : 0;
        refused += good ? 0 : 1;
        return good;
    }

    private boolean tellRewrite() {
        String told = both("rewrite", real::rewrite, model::rewrite);
        rewritings += told.length() < 4 ? 1 : 0;
        tooLarge += told.startsWith("U") ? 1 : 0;
        return told.length() < 4;
    }

    private void makeProgram() {
        int kind = random.nextInt(8);
        if (kind == 0) {
            wildProgram();
        } else {
            orderlyProgram();
            for (int i = kind < 3 ? 1 + random.nextInt(3) : 0; i > 0; i--) {
                poke(random.nextInt(96), random.nextInt(2) == 0 ? random.nextInt(80) : random.nextInt(256));
            }
        }
    }

    private void wildProgram() {
        for (int i = 0; i < 96; i++) {
            poke(i, random.nextInt(10) == 0 ? random.nextInt(2000) - 1000 : random.nextInt(78));
        }
        declare(random.nextInt(96), random.nextInt(20));
    }

    /** Instructions one behind the other, that go to one another, HALT behind them, then a table. */
    private void orderlyProgram() {
        int end = 2 + random.nextInt(70);
        int tableSize = 1 + random.nextInt(5);
        int flow = 1 + random.nextInt(6);
        layOut(end);
        for (int i = 0; i + 1 < starts.size(); i++) {
            int at = starts.get(i);
            int length = starts.get(i + 1) - at;
            if (length == 1) {
                poke(at, oneByte());
            } else if (length == 2) {
                twoBytes(at, flow);
            } else {
                poke(at, 72 + random.nextInt(4));
                poke(at + 1, end + 4);
                poke(at + 2, tableSize);
            }
        }
        int last = starts.get(starts.size() - 1);
        for (int i = last; i < end + 4; i++) {
            poke(i, random.nextInt(3) == 0 ? 3 : 0);
        }
        for (int i = 0; i < tableSize; i++) {
            poke(end + 4 + i, anyStart());
        }
        declare(end + 4, tableSize);
    }

    private void layOut(int end) {
        starts.clear();
        int at = 0;
        while (at < end) {
            starts.add(at);
            int choice = random.nextInt(20);
            at += choice < 8 ? 1 : choice < 19 ? 2 : 3;
        }
        starts.add(at);
    }

    private int anyStart() {
        return starts.get(random.nextInt(starts.size()));
    }

    private int oneByte() {
        int choice = random.nextInt(30);
        return choice == 0 ? 0 : choice == 1 ? 3 : choice < 5 ? 1 : choice < 10 ? 12 + random.nextInt(4)
                : 4 + random.nextInt(44);
    }

    private void twoBytes(int at, int flow) {
        if (random.nextInt(flow) > 0) {
            poke(at, 48 + random.nextInt(12));
            poke(at + 1, random.nextInt(2) == 0 ? random.nextInt(5) : random.nextInt(256));
            return;
        }
        int goal = anyStart();
        int first = 60 + random.nextInt(11);
        poke(at, first);
        poke(at + 1, first <= 68 ? goal - at - 2 : goal);
    }

    private void inspectBlocks() {
        for (int k = -1; k < 66; k++) {
            int number = k;
            for (int w = 0; w < 3; w++) {
                int what = w;
                both("block", () -> real.block(number, what), () -> model.block(number, what));
            }
        }
        for (int a = -1; a < 98; a++) {
            int address = a;
            both("blockAt " + a, () -> real.blockAt(address), () -> model.blockAt(address));
        }
    }

    private void inspectCode() {
        for (int a = -1; a < 258; a++) {
            int address = a;
            both("code " + a, () -> real.code(address, true), () -> model.code(address, true));
            both("old code " + a, () -> real.code(address, false), () -> model.code(address, false));
        }
    }

    private void inspectRun(boolean second) {
        int limit = random.nextInt(2) == 0 ? 3000 : random.nextInt(120);
        both("run " + second + ", " + limit, () -> real.run(second, limit), () -> model.run(second, limit));
        both("steps", real::steps, model::steps);
        for (int i = -1; i < 66; i++) {
            int k = i;
            both("register " + i, () -> real.register(k), () -> model.register(k));
            both("cell " + i, () -> real.cell(k), () -> model.cell(k));
            both("output " + i, () -> real.output(k), () -> model.output(k));
            both("counter " + i, () -> real.counter(k), () -> model.counter(k));
        }
    }

    /** Of two runs that came to an end: all but the PC and the steps is the same. */
    private void sameBehaviour() {
        String first = both("run to its end", () -> real.run(false, 3000), () -> model.run(false, 3000));
        List<Long> left = left();
        String second = both("and rewritten", () -> real.run(true, 3000), () -> model.run(true, 3000));
        if (!first.equals("0") && !second.equals("0")) {
            ended++;
            CHECK.same(name + "the outcome", second, first);
            CHECK.same(name + "what is left", left().toString(), left.toString());
        }
    }

    private List<Long> left() {
        List<Long> all = new ArrayList<>();
        for (int i = 0; i < 7; i++) {
            all.add(i == 4 ? 0L : real.register(i));
        }
        for (int i = 0; i < 16; i++) {
            all.add((long) real.cell(i));
        }
        for (int i = 0; i < real.register(6); i++) {
            all.add((long) real.output(i));
        }
        for (int i = 0; i < 64; i++) {
            all.add(real.counter(i));
        }
        return all;
    }

    private int odd() {
        return random.nextInt(3) == 0 ? random.nextInt(100) : ODD[random.nextInt(ODD.length)];
    }

    private void oddCalls(int most) {
        for (int i = random.nextInt(most); i > 0; i--) {
            int a = odd();
            int b = odd();
            boolean second = random.nextBoolean();
            switch (random.nextInt(9)) {
                case 0:
                    both("odd block", () -> real.block(a, b), () -> model.block(a, b));
                    break;
                case 1:
                    both("odd code", () -> real.code(a, second), () -> model.code(a, second));
                    break;
                case 2:
                    both("odd run", () -> real.run(second, a), () -> model.run(second, a));
                    break;
                case 3:
                    both("odd blockAt", () -> real.blockAt(a), () -> model.blockAt(a));
                    break;
                case 4:
                    both("odd data", Check.act(() -> real.data(a, b)), Check.act(() -> model.data(a, b)));
                    break;
                case 5:
                    if (random.nextInt(4) == 0) {
                        declare(a, b);
                    }
                    break;
                case 6:
                    if (random.nextInt(4) == 0) {
                        both("odd poke", Check.act(() -> real.poke(a, b)), Check.act(() -> model.poke(a, b)));
                    }
                    break;
                case 7:
                    both("odd rewrite", real::rewrite, model::rewrite);
                    break;
                default:
                    both("odd analyse", real::analyse, model::analyse);
                    break;
            }
        }
    }
}
