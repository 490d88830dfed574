/** Compares answers with those that are due, prints each that differs, and ends the test. */
final class Due {
    interface Call {
        Object answer();
    }

    private int wrong = 0;
    private String sentence = "";

    /** What comes next tests this sentence of the document: a wrong answer is told with it. */
    void sentence(String words) {
        sentence = "\"" + words + "\": ";
    }

    void is(String call, long want, long got) {
        if (got != want) {
            tell(call + " answered " + got + ", due is " + want);
        }
    }

    void is(String call, boolean want, boolean got) {
        if (got != want) {
            tell(call + " answered " + got + ", due is " + want);
        }
    }

    void same(String call, Object want, Object got) {
        if (!want.equals(got)) {
            tell(call + " answered\n  " + got + ", due is\n  " + want);
        }
    }

    /** The very class is due: a machine's exception is often of a class below the one promised. */
    void fails(String call, Class<? extends RuntimeException> want, Call c) {
        same(call, "throws " + want.getName(), answerOf(c));
    }

    /** The same, and nothing that can be seen of the room has changed. */
    void failsAndChangesNothing(
            String call, Class<? extends RuntimeException> want, SpliceRoom room, Call c) {
        String before = View.of(room);
        fails(call, want, c);
        same("the room behind " + call, before, View.of(room));
    }

    void frames(String where, SpliceRoom room, int hook, long... want) {
        is(where + ": frames on hook " + hook, want.length, room.look(hook, 1));
        for (int i = 0; i < want.length; i++) {
            is(where + ": frame(" + hook + ", " + i + ")", want[i], room.frame(hook, i));
        }
    }

    void counts(String where, SpliceRoom room, int... want) {
        for (int what = 0; what < want.length; what++) {
            is(where + ": count(" + what + ")", want[what], room.count(what));
        }
    }

    static Object answerOf(Call c) {
        try {
            return c.answer();
        } catch (RuntimeException e) {
            return "throws " + e.getClass().getName();
        }
    }

    boolean allRight() {
        return wrong == 0;
    }

    void end(String name) {
        System.out.println(name + ": " + (wrong == 0 ? "as due" : wrong + " not as due"));
        if (wrong != 0) {
            System.exit(1);
        }
    }

    private void tell(String what) {
        wrong++;
        System.out.println(sentence + what);
    }
}
