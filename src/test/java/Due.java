/** Compares answers with those that are due, prints each that differs, and ends the test. */
final class Due {
    interface Call {
        Object answer();
    }

    private int wrong = 0;

    void is(String call, long want, long got) {
        if (got != want) {
            tell(call + " answered " + got + ", due is " + want);
        }
    }

    void is(String call, boolean want, boolean got) {
        if (got != want) {
            tell(call + " answered " + got + ", due is " + want);
        }
    }

    void same(String call, Object want, Object got) {
        if (!want.equals(got)) {
            tell(call + " answered\n  " + got + ", due is\n  " + want);
        }
    }

    /** The very class is due: a machine's exception is often of a class below the one promised. */
    void fails(String call, Class<? extends RuntimeException> want, Call c) {
        same(call, "throws " + want.getName(), answerOf(c));
    }

    /** The same, and nothing that can be seen of the room has changed. */
    void failsAndChangesNothing(
            String call, Class<? extends RuntimeException> want, SpliceRoom room, Call c) {
        String before = View.of(room);
        fails(call, want, c);
        same("the room behind " + call, before, View.of(room));
    }

    static Object answerOf(Call c) {
        try {
            return c.answer();
        } catch (RuntimeException e) {
            return "throws " + e.getClass().getName();
        }
    }

    boolean allRight() {
        return wrong == 0;
    }

    void end(String name) {
        System.out.println(name + ": " + (wrong == 0 ? "as due" : wrong + " not as due"));
        if (wrong != 0) {
            System.exit(1);
        }
    }

    private void tell(String what) {
        wrong++;
        System.out.println(what);
    }
}
