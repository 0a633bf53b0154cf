/** Counts the calls of one test class whose answer is not the one that is due, and prints them. */
final class Check {
    interface Call {
        Object answer();
    }

    private static final int MOST_SECONDS = 120;

    private int checked = 0;
    private int wrong = 0;
    private volatile String last = "nothing";

    /** A test takes a few seconds: a call that does not end is wrong too, and must not be waited for. */
    Check() {
        Thread watch = new Thread(() -> {
            try {
                Thread.sleep(MOST_SECONDS * 1000L);
            } catch (InterruptedException e) {
                return;
            }
            System.out.println("not at its end after " + MOST_SECONDS + " seconds; asked last: " + last);
            System.out.flush();
            Runtime.getRuntime().halt(1);
        });
        watch.setDaemon(true);
        watch.start();
    }

    void is(String call, Object due, Call asked) {
        last = call;
        Object got = answerOf(asked);
        checked++;
        if (!due.equals(got)) {
            wrong++;
            System.out.println(call + " answered " + got + ", due is " + due);
        }
    }

    void outOfBounds(String call, Call asked) {
        is(call, "throws.IndexOutOfBoundsException", asked);
    }

    void argument(String call, Call asked) {
        is(call, "throws.IllegalArgumentException", asked);
    }

    void state(String call, Call asked) {
        is(call, "throws.IllegalStateException", asked);
    }

    /**
     * An exception is told by the name of its own class, so that one below it is wrong too, and so
     * is one that the room has not thrown itself: it must look ahead of using a library's list.
     */
    static Object answerOf(Call asked) {
        try {
            return asked.answer();
        } catch (RuntimeException e) {
            String told = "throws." + e.getClass().getSimpleName();
            StackTraceElement[] from = e.getStackTrace();
            boolean own = from.length == 0 || from[0].getClassName().matches("(Almanac|Plain)Room.*");
            return own ? told : told + " out of " + from[0].getClassName();
        }
    }

    void end(String test) {
        System.out.println(test + ": " + checked + " checked, " + wrong + " wrong");
        if (wrong != 0 || checked == 0) {
            System.exit(1);
        }
    }
}
