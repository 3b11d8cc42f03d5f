/** Counts the answers that are not due; a test's main method ends with finish. */
final class Check {
    private static int checked = 0;
    private static int wrong = 0;

    interface Call {
        int run();
    }

    private Check() {
    }

    static void same(String name, long got, long due) {
        checked++;
        if (got != due) {
            tell(name + " answered " + got + ", due is " + due);
        }
    }

    static void same(String name, String got, String due) {
        checked++;
        if (!got.equals(due)) {
            tell(name + "\n  was " + got + "\n  due " + due);
        }
    }

    /** The call throws exactly this exception, and nothing that can be seen of the object changes. */
    static void refuses(String name, CrowdFaces x, Class<? extends RuntimeException> due, Call call) {
        String before = Looks.of(x);
        String got = answer(call);
        same(name, got, due.getSimpleName());
        same(name + " changes nothing", Looks.of(x), before);
    }

    static String answer(Call call) {
        try {
            return Integer.toString(call.run());
        } catch (RuntimeException e) {
            return e.getClass().getSimpleName();
        }
    }

    static void tell(String what) {
        wrong++;
        if (wrong <= 50) {
            System.out.println(what);
        }
    }

    static void finish() {
        System.out.println(checked + " answers, " + wrong + " of them wrong");
        if (wrong != 0) {
            System.exit(1);
        }
    }
}
