/** Compares answers with those that are due, and counts what is wrong. */
final class Check {
    private int wrong;

    void is(String what, long due, long answer) {
        if (due != answer) {
            fail(what + ": due is " + due + ", answered was " + answer);
        }
    }

    void is(String what, boolean due, boolean answer) {
        if (due != answer) {
            fail(what + ": due is " + due + ", answered was " + answer);
        }
    }

    void is(String what, double due, double answer) {
        if (due != answer) {
            fail(what + ": due is " + due + ", answered was " + answer);
        }
    }

    /** The call must throw exactly this class, and change nothing that the digest tells. */
    void refuses(String what, Class<?> due, CurfewDesk desk, Runnable call) {
        long before = desk.digest();
        Class<?> thrown = null;
        try {
            call.run();
        } catch (RuntimeException e) {
            thrown = e.getClass();
        }
        if (thrown != due) {
            fail(what + ": due is " + due + ", thrown was " + thrown);
        }
        is(what + " changes nothing", before, desk.digest());
    }

    void noSuch(String what, CurfewDesk desk, Runnable call) {
        refuses(what, IndexOutOfBoundsException.class, desk, call);
    }

    void badArgument(String what, CurfewDesk desk, Runnable call) {
        refuses(what, IllegalArgumentException.class, desk, call);
    }

    void full(String what, CurfewDesk desk, Runnable call) {
        refuses(what, IllegalStateException.class, desk, call);
    }

    void fail(String text) {
        wrong++;
        System.out.println(text);
    }

    void finish() {
        if (wrong != 0) {
            System.out.println(wrong + " wrong");
            System.exit(1);
        }
        System.out.println("all as due");
    }
}
