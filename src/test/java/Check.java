/** Compares answers with those that are due and counts the wrong ones. */
final class Check {
    interface Call {
        Object answer();
    }

    private static int made = 0;
    private static int wrong = 0;

    private Check() {
    }

    static void due(String what, Object got, Object want) {
        made++;
        if (!want.equals(got)) {
            wrong++;
            System.out.println(what + ": answered " + got + ", due is " + want);
        }
    }

    /** The exception's very class is asked, since some of the classes stand above others. */
    static void fails(String what, Class<? extends RuntimeException> kind, Call call) {
        Object got;
        try {
            got = call.answer();
        } catch (RuntimeException e) {
            got = e.getClass();
        }
        due(what, got, kind);
    }

    static void finish(String name) {
        System.out.println(name + ": " + made + " checks, " + wrong + " wrong");
        if (wrong != 0 || made == 0) {
            System.exit(1);
        }
    }
}
