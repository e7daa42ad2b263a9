/** Counts the answers that are not the ones that are due, and tells them. */
final class Check {
    interface Call {
        long answer();
    }

    private int looked = 0;
    private int wrong = 0;

    void due(String what, long want, Call call) {
        looked++;
        String got;
        try {
            got = Long.toString(call.answer());
        } catch (RuntimeException thrown) {
            got = thrown.getClass().getName();
        }
        if (!got.equals(Long.toString(want))) {
            complain(what + " answered " + got + ", due is " + want);
        }
    }

    void due(String what, boolean want, boolean got) {
        looked++;
        if (want != got) {
            complain(what + " answered " + got + ", due is " + want);
        }
    }

    // Exactly the class that is due, thrown by the program's own lines: what the
    // machine or the library throws for a wrong index must not reach a caller.
    void noSuch(String what, Call call) {
        refused(what, IndexOutOfBoundsException.class, call);
    }

    void outOfRange(String what, Call call) {
        refused(what, IllegalArgumentException.class, call);
    }

    void wrongState(String what, Call call) {
        refused(what, IllegalStateException.class, call);
    }

    void same(String what, String want, String got) {
        looked++;
        if (!want.equals(got)) {
            complain(what + " answered " + got + ", due is " + want);
        }
    }

    private void refused(String what, Class<? extends RuntimeException> want, Call call) {
        looked++;
        String got;
        try {
            got = Long.toString(call.answer());
        } catch (RuntimeException thrown) {
            if (thrown.getClass() == want && comesFromTheProgram(thrown)) {
                return;
            }
            got = thrown.toString();
        }
        complain(what + " answered " + got + ", due is " + want.getName());
    }

    /** Tells whether a line of the program threw it, and neither the machine's library nor a test. */
    static boolean comesFromTheProgram(RuntimeException thrown) {
        StackTraceElement[] calls = thrown.getStackTrace();
        if (calls.length == 0) {
            return false;
        }
        String thrower = calls[0].getClassName();
        return thrower.equals("GraveyardReader") || thrower.startsWith("GraveyardReader$");
    }

    void complain(String text) {
        wrong++;
        if (wrong <= 40) {
            System.out.println(text);
        }
    }

    void end() {
        System.out.println(wrong == 0 ? looked + " answers are as due" : wrong + " answers are not as due");
        if (wrong != 0) {
            System.exit(1);
        }
    }
}
