/** Counts what is due and what is not, for one test. */
final class Due {
    interface Call {
        long answer();
    }

    private final String test;
    private int right;
    private int wrong;

    Due(String test) {
        this.test = test;
    }

    void is(String what, long got, long due) {
        tell(got == due, what + ": " + got + " answered, due is " + due);
    }

    void isNear(String what, double got, double due) {
        tell(got == due, what + ": " + got + " answered, due is " + due);
    }

    void isSo(String what, boolean isSo) {
        tell(isSo, what);
    }

    /** Why it stopped last. */
    void stopped(String what, Lantern lantern, int reason, int cause) {
        is(what + ": reason", lantern.told(Programs.REASON), reason);
        is(what + ": cause", lantern.told(Programs.CAUSE), cause);
    }

    void areSame(String what, long[] got, long[] due) {
        is(what + ": so many", got.length, due.length);
        for (int i = 0; i < Math.min(got.length, due.length); i++) {
            is(what + ", asked " + i, got[i], due[i]);
        }
    }

    /** The call throws just this exception, and nothing of the object changes by it. */
    void refused(String what, Lantern lantern, Class<? extends Exception> due, Call call) {
        long before = Programs.seen(lantern);
        String got;
        try {
            got = "the answer " + call.answer();
        } catch (RuntimeException thrown) {
            got = thrown.getClass().getSimpleName();
        }
        tell(got.equals(due.getSimpleName()), what + ": " + got + ", due is " + due.getSimpleName());
        is(what + " changes nothing", Programs.seen(lantern), before);
    }

    private void tell(boolean isRight, String text) {
        if (isRight) {
            right++;
            return;
        }
        wrong++;
        System.out.println(test + ": " + text);
    }

    void end() {
        System.out.println(test + ": " + right + " answers as due, " + wrong + " not");
        if (wrong > 0 || right == 0) {
            System.exit(1);
        }
    }
}
