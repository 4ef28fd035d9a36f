/** Compares answers with what is due, and tells at the end of a test whether all were right. */
final class Check {
    static final Class<IndexOutOfBoundsException> INDEX = IndexOutOfBoundsException.class;
    static final Class<IllegalArgumentException> ARGUMENT = IllegalArgumentException.class;
    static final Class<IllegalStateException> STATE = IllegalStateException.class;

    private static int checks = 0;
    private static int wrong = 0;

    private Check() {
    }

    static void is(String what, Object due, Object got) {
        checks++;
        if (!due.equals(got)) {
            wrong++;
            System.out.println(what + ": answered " + got + ", due is " + due);
        }
    }

    static void is(String what, long due, long got) {
        is(what, Long.valueOf(due), Long.valueOf(got));
    }

    /** The very class is asked for: a class below it would be another exception. */
    static void throwing(String what, Class<? extends RuntimeException> due, Runnable call) {
        Object got = "nothing thrown";
        try {
            call.run();
        } catch (RuntimeException thrown) {
            got = thrown.getClass();
        }
        is(what, due, got);
    }

    static void end() {
        System.out.println(checks + " checks, " + wrong + " wrong");
        if (wrong != 0 || checks == 0) {
            System.exit(1);
        }
    }
}
