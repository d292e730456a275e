/** What the tests share: it compares answers with those that are due, and counts the wrong ones. */
final class Check {
    private static final int SHOWN = 30;
    private final String test;
    private int asked = 0;
    private int wrong = 0;

    Check(String test) {
        this.test = test;
    }

    interface Call {
        long answer();
    }

    interface Act {
        void go();
    }

    /** An answer, or the name of the exception that came in its place. */
    static String told(Call call) {
        try {
            return Long.toString(call.answer());
        } catch (RuntimeException e) {
            return e.getClass().getSimpleName();
        }
    }

    static Call act(Act act) {
        return () -> {
            act.go();
            return 0;
        };
    }

    void same(String what, String got, String want) {
        asked++;
        if (!got.equals(want)) {
            wrong++;
            if (wrong <= SHOWN) {
                System.out.println(test + ": " + what + " answered " + got + ", due is " + want);
            }
        }
    }

    void due(String what, Call call, long want) {
        same(what, told(call), Long.toString(want));
    }

    void dueThrow(String what, Class<? extends RuntimeException> want, Call call) {
        same(what, told(call), want.getSimpleName());
    }

    void end() {
        System.out.println(test + ": " + asked + " answers looked at, " + wrong + " wrong");
        if (wrong > 0 || asked == 0) {
            System.exit(1);
        }
    }

    /** A new object with these bytes from address 0 on. */
    static BlockCounter with(int... bytes) {
        BlockCounter x = new BlockCounter();
        put(x, 0, bytes);
        return x;
    }

    static void put(BlockCounter x, int from, int... bytes) {
        for (int i = 0; i < bytes.length; i++) {
            x.poke(from + i, bytes[i]);
        }
    }
}
