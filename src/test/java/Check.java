/** What the tests share: they count the wrong answers, print each, and end with exit code 1 if there was one. */
final class Check {
    static final Class<? extends RuntimeException> NO_SUCH = IndexOutOfBoundsException.class;
    static final Class<? extends RuntimeException> BAD_ARGUMENT = IllegalArgumentException.class;
    static final Class<? extends RuntimeException> BAD_STATE = IllegalStateException.class;

    private static int asked = 0;
    private static int wrong = 0;

    private Check() {
    }

    /** A book at some point of its life, which can be made as often as it is needed. */
    interface Story {
        GrantBook tell();
    }

    interface Call {
        void on(GrantBook book);
    }

    static void due(String what, long got, long want) {
        asked++;
        if (got != want) {
            fail(what + " answered " + got + ", due is " + want);
        }
    }

    static void due(String what, boolean got, boolean want) {
        due(what, got ? 1 : 0, want ? 1 : 0);
    }

    static void due(String what, String got, String want) {
        asked++;
        if (!got.equals(want)) {
            fail(what + " answered " + got + ", due is " + want);
        }
    }

    /** The call throws just this exception, not one of its kind that the machine throws. */
    static void throwsJust(GrantBook book, String what, Class<? extends RuntimeException> want, Call call) {
        asked++;
        Class<?> got = null;
        try {
            call.on(book);
        } catch (RuntimeException e) {
            got = e.getClass();
        }
        if (got != want) {
            fail(what + " threw " + (got == null ? "nothing" : got.getSimpleName()) + ", due is " + want.getSimpleName());
        }
    }

    /** The call throws just this exception and changes nothing: the book goes on as one that was not asked it. */
    static void refused(Story story, String what, Class<? extends RuntimeException> want, Call call) {
        for (View view : View.values()) {
            GrantBook book = story.tell();
            throwsJust(book, what, want, call);
            due(view + " after the refused " + what, view.of(book), view.of(story.tell()));
        }
    }

    /** The call does not throw and changes nothing. */
    static void keeps(Story story, String what, Call call) {
        for (View view : View.values()) {
            GrantBook book = story.tell();
            call.on(book);
            due(view + " after " + what, view.of(book), view.of(story.tell()));
        }
    }

    /** The values just outside of a range, and those at the ends of all ints. */
    static int[] outside(int least, int most) {
        return new int[] {least - 1, most + 1, Integer.MIN_VALUE, Integer.MAX_VALUE};
    }

    static void fail(String message) {
        wrong++;
        System.out.println(message);
    }

    static void end(String test) {
        System.out.println(test + ": " + asked + " checks, " + wrong + " wrong");
        if (wrong != 0) {
            System.exit(1);
        }
    }
}
