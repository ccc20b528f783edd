import java.util.NoSuchElementException;

/** Counts the answers of one test that are not as due. */
final class Due {
    interface Call {
        void make();
    }

    private final String test;
    private int wrong = 0;
    private int asked = 0;

    Due(String test) {
        this.test = test;
    }

    void is(String call, long got, long want) {
        asked++;
        if (got != want) {
            tell(call + " answered " + got + ", due is " + want);
        }
    }

    void yes(String call, boolean got) {
        is(call, got ? 1 : 0, 1);
    }

    void no(String call, boolean got) {
        is(call, got ? 1 : 0, 0);
    }

    void same(String call, String got, String want) {
        asked++;
        if (!got.equals(want)) {
            tell(call + " leaves\n  " + got + "\ndue is\n  " + want);
        }
    }

    void noSuchElement(String call, Call made) {
        throwing(call, made, NoSuchElementException.class);
    }

    void illegalArgument(String call, Call made) {
        throwing(call, made, IllegalArgumentException.class);
    }

    void tell(String text) {
        wrong++;
        System.out.println(test + ": " + text);
    }

    void end() {
        System.out.println(asked + " asked, " + wrong + " not as due");
        if (wrong != 0) {
            System.exit(1);
        }
    }

    private void throwing(String call, Call made, Class<?> want) {
        asked++;
        Class<?> got = null;
        try {
            made.make();
        } catch (RuntimeException e) {
            got = e.getClass();
        }
        if (got != want) {
            tell(call + " threw " + got + ", due is " + want);
        }
    }
}
