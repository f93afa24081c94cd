/** What the tests share: they count the wrong answers, print each, and end with exit code 1 if there was one. */
final class Check {
    static final Class<? extends RuntimeException> NO_SUCH = IndexOutOfBoundsException.class;
    static final Class<? extends RuntimeException> BAD_ARGUMENT = IllegalArgumentException.class;
    static final Class<? extends RuntimeException> BAD_STATE = IllegalStateException.class;

    private static final int[] PROBED_DAYS = {0, 1, 5, 10, 20, 50, 100, 5000, 9998, 9999};
    private static int asked = 0;
    private static int wrong = 0;

    private Check() {
    }

    interface Call {
        void run();
    }

    static void due(String what, long got, long want) {
        asked++;
        if (got != want) {
            fail(what + " answered " + got + ", due is " + want);
        }
    }

    static void due(String what, boolean got, boolean want) {
        due(what, got ? 1 : 0, want ? 1 : 0);
    }

    static void due(String what, String got, String want) {
        asked++;
        if (!got.equals(want)) {
            fail(what + " answered " + got + ", due is " + want);
        }
    }

    /** The call throws just this exception and changes nothing that the book answers. */
    static void throwsAndKeeps(GrantBook book, String what, Class<? extends RuntimeException> want, Call call) {
        asked++;
        String before = allAnswers(book);
        Class<?> got = null;
        try {
            call.run();
        } catch (RuntimeException e) {
            got = e.getClass();
        }
        if (got != want) {
            fail(what + " threw " + (got == null ? "nothing" : got.getSimpleName()) + ", due is " + want.getSimpleName());
        }
        String after = allAnswers(book);
        if (!after.equals(before)) {
            fail(what + " threw and changed the book from\n  " + before + "\nto\n  " + after);
        }
    }

    /** Everything that can be asked without a change; an extend to the last day itself is such a question too. */
    static String allAnswers(GrantBook book) {
        StringBuilder text = new StringBuilder();
        text.append("lines ").append(book.lines());
        for (int i = 0; i < book.lines(); i++) {
            text.append(" [room ").append(book.room(i)).append(" left ").append(book.left(i)).append(']');
        }
        text.append(" vouchers ").append(book.vouchers());
        for (int i = 0; i < book.vouchers(); i++) {
            text.append(" [").append(book.fits(i)).append(' ').append(book.eligible(i)).append(']');
        }
        for (int day : PROBED_DAYS) {
            text.append(" day ").append(day).append(" [").append(book.costs(day)).append(' ').append(book.overhead(day));
            text.append(' ').append(book.earned(day)).append(' ').append(book.missingMatch(day)).append(']');
        }
        text.append(" claims ").append(book.claims());
        for (int i = 0; i < book.claims(); i++) {
            text.append(" [").append(book.paid(i)).append(']');
        }
        return text.append(" unsettled ").append(book.unsettled()).toString();
    }

    static void fail(String message) {
        wrong++;
        System.out.println(message);
    }

    static void end(String test) {
        System.out.println(test + ": " + asked + " checks, " + wrong + " wrong");
        if (wrong != 0) {
            System.exit(1);
        }
    }
}
