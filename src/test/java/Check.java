/** Compares answers with those that are due, and ends a test with exit code 1 if one was wrong. */
final class Check {
    private static int asked = 0;
    private static int wrong = 0;

    private Check() {
    }

    static void is(String what, long got, long due) {
        asked++;
        if (got != due) {
            report(what + " answered " + got + ", due is " + due);
        }
    }

    static void is(String what, boolean got, boolean due) {
        is(what, got ? 1 : 0, due ? 1 : 0);
    }

    static void is(String what, String got, String due) {
        asked++;
        if (!got.equals(due)) {
            report(what + " answered '" + got + "', due is '" + due + "'");
        }
    }

    /** The call must throw exactly this kind; Edge.refused asks too that it has changed nothing. */
    static void fails(String what, Class<?> kind, Runnable call) {
        String got = "nothing";
        try {
            call.run();
        } catch (RuntimeException e) {
            got = thrown(e);
        }
        is(what + " throws", got, kind.getName());
    }

    /** The exception's name; another text if not the net threw it, but the machine or the library. */
    static String thrown(RuntimeException e) {
        StackTraceElement[] trace = e.getStackTrace();
        boolean isOwn = trace.length > 0 && trace[0].getClassName().equals("BulletinNet");
        return isOwn ? e.getClass().getName() : "from outside: " + e;
    }

    static void end(String test) {
        System.out.println(test + ": " + asked + " answers, " + wrong + " wrong");
        if (wrong > 0) {
            System.exit(1);
        }
    }

    private static void report(String line) {
        wrong++;
        if (wrong <= 20) {
            System.out.println(line);
        }
    }
}
