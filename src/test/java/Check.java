/** Counts the answers of one test, prints the wrong ones, and ends the program with 1 if there was one. */
final class Check {
    private final String name;
    private String under = "";
    private int answersUnder = 0;
    private int right = 0;
    private int wrong = 0;

    Check(String name) {
        this.name = name;
    }

    /** The test of one sentence of the document; without an answer it would be no test. */
    void under(String sentence, Runnable test) {
        under = "[" + sentence + "] ";
        answersUnder = 0;
        try {
            test.run();
            holds("no answer was looked at", answersUnder > 0);
        } catch (RuntimeException e) {
            holds("it ends by " + e, false);
        }
        under = "";
    }

    void is(String call, long got, long due) {
        note(got == due, call + " answered " + got + ", due is " + due);
    }

    void is(String call, boolean got, boolean due) {
        note(got == due, call + " answered " + got + ", due is " + due);
    }

    void holds(String what, boolean is) {
        note(is, what);
    }

    void accepts(String call, Runnable body) {
        try {
            body.run();
            note(true, call);
        } catch (RuntimeException e) {
            note(false, call + " throws " + e);
        }
    }

    /** The exception has to be thrown by the class itself: one that the machine or a list throws does not count. */
    void refuses(String call, Class<? extends RuntimeException> due, Runnable body) {
        try {
            body.run();
            note(false, call + " throws nothing, due is " + due.getSimpleName());
        } catch (RuntimeException e) {
            note(e.getClass() == due && isThrownByProgram(e), call + " throws " + e + " in " + firstFrame(e)
                    + ", due is " + due.getSimpleName());
        }
    }

    void refusesIndex(String call, Runnable body) {
        refuses(call, IndexOutOfBoundsException.class, body);
    }

    void refusesArgument(String call, Runnable body) {
        refuses(call, IllegalArgumentException.class, body);
    }

    void refusesState(String call, Runnable body) {
        refuses(call, IllegalStateException.class, body);
    }

    static boolean isThrownByProgram(RuntimeException e) {
        StackTraceElement[] frames = e.getStackTrace();
        return frames.length > 0 && frames[0].getClassName().startsWith("KerbHours");
    }

    private static String firstFrame(RuntimeException e) {
        StackTraceElement[] frames = e.getStackTrace();
        return frames.length > 0 ? frames[0].toString() : "no frame";
    }

    private void note(boolean isRight, String text) {
        answersUnder++;
        if (isRight) {
            right++;
        } else {
            wrong++;
            System.out.println(name + ": " + under + text);
        }
    }

    void end() {
        System.out.println(name + ": " + right + " right, " + wrong + " wrong");
        if (wrong > 0 || right == 0) {
            System.exit(1);
        }
    }
}
