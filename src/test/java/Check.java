/** Counts and prints the answers that are not due; a test ends with its verdict. */
final class Check {
    private static int wrong = 0;

    private Check() {
    }

    static void same(String what, Object due, Object got) {
        if (!due.equals(got)) {
            wrong++;
            System.out.println(what + " answered " + got + ", due is " + due);
        }
    }

    static void index(String what, Runnable call) {
        fails(what, IndexOutOfBoundsException.class, call);
    }

    static void argument(String what, Runnable call) {
        fails(what, IllegalArgumentException.class, call);
    }

    static void state(String what, Runnable call) {
        fails(what, IllegalStateException.class, call);
    }

    static void unsupported(String what, Runnable call) {
        fails(what, UnsupportedOperationException.class, call);
    }

    static void passes(String what, Runnable call) {
        try {
            call.run();
        } catch (RuntimeException e) {
            same(what, "nothing thrown", e.getClass());
        }
    }

    static void fails(String what, Class<?> due, Runnable call) {
        Object got = "no exception";
        try {
            call.run();
        } catch (RuntimeException e) {
            got = e.getClass();
        }
        same(what, due, got);
    }

    /** An object with so many roles and users. */
    static RoleAnalyser world(int roles, int users) {
        RoleAnalyser made = new RoleAnalyser();
        for (int i = 0; i < roles; i++) {
            made.role();
        }
        for (int i = 0; i < users; i++) {
            made.user();
        }
        return made;
    }

    static void end() {
        if (wrong > 0) {
            System.out.println(wrong + " wrong");
            System.exit(1);
        }
    }
}
