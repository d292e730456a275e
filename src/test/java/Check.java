import java.util.Arrays;

/** What the tests share: it compares answers with those that are due, and counts the wrong ones. */
final class Check {
    private static final int SHOWN = 30;
    private static final int SHORT = 40;
    private final String test;
    private String sentence = "";
    private int sentences = 0;
    private int asked = 0;
    private int wrong = 0;

    Check(String test) {
        this.test = test;
    }

    interface Call {
        long answer();
    }

    interface Act {
        void go();
    }

    /** An answer, or the name of the exception that came in its place. */
    static String told(Call call) {
        try {
            return Long.toString(call.answer());
        } catch (RuntimeException e) {
            return e.getClass().getSimpleName();
        }
    }

    static Call act(Act act) {
        return () -> {
            act.go();
            return 0;
        };
    }

    /** The test of one sentence of the document; what is wrong in it is told with the sentence. */
    void sentence(String words, Act ofSentence) {
        int before = asked;
        sentence = " \"" + words + "\":";
        sentences++;
        String end = told(act(ofSentence));
        if (!end.equals("0") || asked == before) {
            wrong("the test itself ended with " + end + " after " + (asked - before) + " answers");
        }
        sentence = "";
    }

    private void wrong(String line) {
        wrong++;
        if (wrong <= SHOWN) {
            System.out.println(test + ":" + sentence + " " + line);
        }
    }

    void same(String what, String got, String want) {
        asked++;
        if (!got.equals(want)) {
            int from = Math.max(0, firstDifference(got, want) - SHORT);
            wrong(what + " answered " + cut(got, from) + ", due is " + cut(want, from));
        }
    }

    private static int firstDifference(String a, String b) {
        int i = 0;
        while (i < a.length() && i < b.length() && a.charAt(i) == b.charAt(i)) {
            i++;
        }
        return i;
    }

    /** A long text is told only round the place where it is wrong. */
    private static String cut(String text, int from) {
        if (text.length() <= 2 * SHORT) {
            return text;
        }
        int begin = Math.min(from, text.length() - SHORT);
        return ".." + text.substring(begin, Math.min(text.length(), begin + 2 * SHORT)) + "..";
    }

    void due(String what, Call call, long want) {
        same(what, told(call), Long.toString(want));
    }

    void dueThrow(String what, Class<? extends RuntimeException> want, Call call) {
        same(what, told(call), want.getSimpleName());
    }

    /** A call that is refused, and all that can be seen of the object is as before. */
    void dueRefusal(String what, Class<? extends RuntimeException> want, BlockCounter x, Call call) {
        String before = seen(x);
        dueThrow(what, want, call);
        same(what + " changed what can be seen, which", seen(x), before);
    }

    /** The outcome, the steps, the PC, the stack and the output's length of a run of the original. */
    void dueRun(BlockCounter x, int limit, int... want) {
        String name = "run of " + bytes(x) + " for " + limit;
        due(name, () -> x.run(false, limit), want[0]);
        due(name + ": steps", x::steps, want[1]);
        due(name + ": PC", () -> x.register(4), want[2]);
        due(name + ": stack", () -> x.register(5), want[3]);
        due(name + ": output", () -> x.register(6), want[4]);
    }

    void dueRegisters(BlockCounter x, int... want) {
        for (int i = 0; i < 4; i++) {
            int k = i;
            due(bytes(x) + ": register " + i, () -> x.register(k), want[i]);
        }
    }

    void dueCounters(BlockCounter x, int... want) {
        for (int i = 0; i < want.length; i++) {
            int k = i;
            due(bytes(x) + ": counter " + i, () -> x.counter(k), want[i]);
        }
    }

    void dueCode(String name, BlockCounter x, int from, int... want) {
        for (int i = 0; i < want.length; i++) {
            int address = from + i;
            due(name + ": code " + address, () -> x.code(address, true), want[i]);
        }
    }

    void end() {
        String told = sentences > 0 ? sentences + " sentences, " : "";
        System.out.println(test + ": " + told + asked + " answers looked at, " + wrong + " wrong");
        if (wrong > 0 || asked == 0) {
            System.exit(1);
        }
    }

    /** A new object with these bytes from address 0 on. */
    static BlockCounter with(int... bytes) {
        BlockCounter x = new BlockCounter();
        put(x, 0, bytes);
        return x;
    }

    static void put(BlockCounter x, int from, int... bytes) {
        for (int i = 0; i < bytes.length; i++) {
            x.poke(from + i, bytes[i]);
        }
    }

    private static String bytes(BlockCounter x) {
        int[] shown = new int[12];
        for (int i = 0; i < shown.length; i++) {
            shown[i] = x.code(i, false);
        }
        return Arrays.toString(shown);
    }

    /** All that can be asked of the latest run. */
    static String left(BlockCounter x) {
        StringBuilder all = new StringBuilder("steps " + x.steps());
        tell(all, ", registers", 7, x::register);
        tell(all, ", cells", 16, x::cell);
        tell(all, ", output", 40, x::output);
        tell(all, ", counters", 64, x::counter);
        return all.toString();
    }

    /**
     * All that can be asked of an object without changing it. These are more calls than the document
     * promises for an object; the class has no limit of its own.
     */
    static String seen(BlockCounter x) {
        StringBuilder all = new StringBuilder(left(x));
        tell(all, ", code", 96, i -> x.code(i, false));
        tell(all, ", rewritten", 256, i -> x.code(i, true));
        tell(all, ", blockAt", 96, x::blockAt);
        for (int what = 0; what < 3; what++) {
            int fact = what;
            tell(all, ", blocks", 64, k -> x.block(k, fact));
        }
        return all.toString();
    }

    interface Question {
        long answer(int i);
    }

    private static void tell(StringBuilder all, String name, int count, Question question) {
        all.append(name);
        for (int i = 0; i < count; i++) {
            int k = i;
            all.append(' ').append(told(() -> question.answer(k)));
        }
    }
}
